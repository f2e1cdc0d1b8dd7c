/** Objects in the states that several tests begin from. */
final class States {
    /** All states that an entry can have. */
    static final int[] MARKS = {0, 1, 2, 3, 4, 6, 8, 9, 12};

    interface PairCall {
        void on(int user, int other);
    }

    private States() {
    }

    static void eachPair(PairCall call) {
        for (int pair = 0; pair < 36; pair++) {
            if (pair / 6 != pair % 6) {
                call.on(pair / 6, pair % 6);
            }
        }
    }

    static void loseAll(PresenceGrants x) {
        for (int left = x.underWay(); left > 0; left--) {
            x.lose(0);
        }
    }

    /** Users 0 (seats 0 and 2, moods 1 and 2) and 1 (seat 0, mood 3) see each other. */
    static PresenceGrants friends() {
        PresenceGrants x = new PresenceGrants();
        x.turnOn(0, 2, 0, 2);
        x.turnOn(0, 0, 0, 1);
        x.turnOn(1, 0, 0, 3);
        Check.letSee(x, 0, 1);
        Check.letSee(x, 1, 0);
        Check.views("friends", x, 0, 1, 3, -1, -1);
        Check.views("friends", x, 1, 0, 1, -1, 2);
        return x;
    }

    /** User 5 with all seats on (moods 0 to 2), seen by the other five, who are not there; nothing is under way. */
    static PresenceGrants crowd() {
        PresenceGrants x = new PresenceGrants();
        for (int user = 0; user < 5; user++) {
            Check.letSee(x, user, 5);
        }
        for (int seat = 0; seat < 3; seat++) {
            x.turnOn(5, seat, 0, seat);
        }
        Check.settle(x);
        return x;
    }

    /** Lets the user 5 of a crowd send its seat 0, in steps of five messages, until so many are under way. */
    static void fill(PresenceGrants x, int messages) {
        for (int size = x.underWay(); size + 5 <= messages; size += 5) {
            x.turnOn(5, 0, 0, 0);
        }
        Check.same("filled", x.underWay(), messages);
    }

    /** A crowd with 300 under way. */
    static PresenceGrants full() {
        PresenceGrants x = crowd();
        fill(x, 300);
        return x;
    }

    /** Nothing is under way, and user 0 has these marks for user 1, who has those that agree with them. */
    static PresenceGrants marked(int marks) {
        PresenceGrants x = new PresenceGrants();
        mark(x, marks);
        return x;
    }

    /** Brings an object in which users 0 and 1 have no marks for each other, and nothing is under way, into marks. */
    static void mark(PresenceGrants x, int marks) {
        if ((marks & 1) != 0) {
            Check.letSee(x, 0, 1);
        }
        if ((marks & 2) != 0) {
            Check.letSee(x, 1, 0);
        }
        if ((marks & 4) != 0) {
            x.ask(0, 1);
        }
        if ((marks & 8) != 0) {
            x.ask(1, 0);
        }
        Check.settle(x);
        Check.same("marks of user 0 for user 1", x.entry(0, 1), marks);
    }

    /** Users 0 and 1 see each other or are about to, other pairs wait; one state is saved, and the text is empty. */
    static PresenceGrants busyOnce() {
        PresenceGrants x = new PresenceGrants();
        Check.write(x, "i00;i01;i10;i11;a01;d09;g10;d09;a10;a23;d01;g01;i02;a45;a32;");
        Check.same("carried out", x.carryOut(), 15);
        x.clearText();
        return x;
    }

    /** Something of everything: marks, views, a block, messages of several kinds, a text, four saved states. */
    static PresenceGrants busy() {
        PresenceGrants x = busyOnce();
        Check.write(x, "a50;d03;o01;r10;");
        x.block(2, 4, true);
        x.ask(5, 1);
        x.turnOn(1, 2, -9, 4);
        x.stop(4, 5);
        Check.same("lost", x.lose(0), 0);
        return x;
    }

    /** A crowd with 300 under way, a hundred bytes of text and four saved states. */
    static PresenceGrants fullOfAll() {
        PresenceGrants x = full();
        for (int order = 0; order < 25; order++) {
            String text = order % 2 == 0 ? "a01;" : "d02;";
            for (int i = 0; i < 4; i++) {
                x.append(text.charAt(i));
            }
        }
        return x;
    }
}
