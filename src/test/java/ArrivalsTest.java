/**
 * What happens as a message from user 1 arrives at user 0: each kind, against each state of user 0's entry that it
 * can meet. The marks "sees" and "asked" are one half of a state, "seen" and "asking" the other half; a message
 * looks at one half and leaves the other as it is.
 */
public final class ArrivalsTest {
    private static final int[] SEEING_HALF = {0, 1, 4};
    private static final int[] SEEN_HALF = {0, 2, 8};

    public static void main(String[] args) {
        for (int seeing : SEEING_HALF) {
            for (int seen : SEEN_HALF) {
                for (int seats = 0; seats < 8; seats++) {
                    askArrives(seeing, seen, seats);
                    stopArrives(seeing, seen, seats);
                }
                grantArrives(seeing, seen);
                refuseArrives(seeing, seen);
                goneArrives(seeing, seen);
                hereArrives(seeing, seen, true);
                hereArrives(seeing, seen, false);
            }
        }
        for (int seen : SEEN_HALF) {
            for (int seats = 0; seats < 8; seats++) {
                probeArrives(seen, seats);
            }
        }
        hereOfASeatThatIsOffByNow();
        goneOfOneSeat();
        apartNothingHappens();
        apartByEitherSide();
        Check.end("ArrivalsTest");
    }

    /** User 0 has a mood of its own, 1 to 3, at each of these seats (a bit each). */
    private static PresenceGrants seated(int seats, int marks) {
        PresenceGrants x = new PresenceGrants();
        for (int seat = 0; seat < 3; seat++) {
            if ((seats >> seat & 1) != 0) {
                x.turnOn(0, seat, -seat, seat + 1);
            }
        }
        States.mark(x, marks);
        return x;
    }

    private static String shown(int seats) {
        StringBuilder due = new StringBuilder();
        for (int seat = 0; seat < 3; seat++) {
            if ((seats >> seat & 1) != 0) {
                due.append(due.length() == 0 ? "" : ", ").append("here 0>1 ").append(seat).append(':').append(seat + 1);
            }
        }
        return due.toString();
    }

    private static String hidden(int seats) {
        return shown(seats).replace("here", "gone").replaceAll(":[0-9]", "");
    }

    /** Lets the only message under way arrive, and looks at the entry, its version, and what is sent. */
    private static void arrives(String what, PresenceGrants x, int entry, String sent) {
        Check.same(what + ": under way before", x.underWay(), 1);
        int version = x.version(0, -1) + (x.entry(0, 1) == entry ? 0 : 1);
        int entryVersion = x.entry(0, 1) == entry ? x.version(0, 1) : version;
        int theirs = x.version(1, -1);
        Check.same(what + ": deliver", x.deliver(1), 1);
        Check.same(what + ": entry", x.entry(0, 1), entry);
        Check.same(what + ": version of the roster", x.version(0, -1), version);
        Check.same(what + ": version of the entry", x.version(0, 1), entryVersion);
        Check.same(what + ": version of the sender's roster", x.version(1, -1), theirs);
        Check.post(what, x, sent);
    }

    private static void askArrives(int seeing, int seen, int seats) {
        Check.sentence("ask: if seen is set, b sends a grant to a and shows itself to a; otherwise asking is set");
        PresenceGrants x = seated(seats, seeing + seen);
        x.stop(1, 0);
        States.loseAll(x);
        x.ask(1, 0);
        String shown = seats == 0 ? "" : ", " + shown(seats);
        arrives("marks " + (seeing + seen) + ", seats " + seats, x, seeing + (seen == 2 ? 2 : 8),
            seen == 2 ? "grant 0>1" + shown : "");
    }

    private static void stopArrives(int seeing, int seen, int seats) {
        Check.sentence("stop: if seen or asking is set, both are taken away, and b hides from a (in either case)");
        PresenceGrants x = seated(seats, seeing + seen);
        if (seen == 0) {
            x.ask(1, 0);
            States.loseAll(x);
        }
        x.stop(1, 0);
        arrives("marks " + (seeing + seen) + ", seats " + seats, x, seeing, seen == 0 ? "" : hidden(seats));
    }

    private static void grantArrives(int seeing, int seen) {
        Check.sentence("grant: if asked is set, asked is taken away and sees is set");
        PresenceGrants x = States.marked(seeing + seen);
        if (seeing == 0) {
            x.ask(0, 1);
            Check.settle(x);
            x.stop(0, 1);
            States.loseAll(x);
        }
        if (seeing == 1) {
            // Two asks meet seen, so that a second grant finds sees set by the first one.
            x.stop(0, 1);
            States.loseAll(x);
            x.ask(0, 1);
            x.stop(0, 1);
            x.lose(1);
            x.ask(0, 1);
            x.deliver(3);
            Check.same("sees by the first grant", x.entry(0, 1), 1 + seen);
        } else {
            x.grant(1, 0);
        }
        arrives("marks " + (seeing + seen), x, seen + (seeing == 0 ? 0 : 1), "");
    }

    private static void refuseArrives(int seeing, int seen) {
        Check.sentence("refuse: sees and asked are taken away, and all views of seats of a become none");
        PresenceGrants x = States.marked(seeing + seen);
        x.turnOn(0, 0, 0, 0);
        x.turnOn(1, 0, 0, 1);
        x.turnOn(1, 2, 0, 2);
        Check.settle(x);
        Check.views("before", x, 0, 1, seeing == 1 ? 1 : -1, -1, seeing == 1 ? 2 : -1);
        if (seeing == 0) {
            x.ask(0, 1);
            Check.settle(x);
            x.stop(0, 1);
            States.loseAll(x);
        }
        x.refuse(1, 0);
        for (int left = x.underWay(); left > 1; left--) {
            x.lose(1);
        }
        arrives("marks " + (seeing + seen), x, seen, "");
        Check.views("after", x, 0, 1, -1, -1, -1);
    }

    /** User 1 has seen for user 0, whatever marks user 0 has by now. */
    private static PresenceGrants seenByWhoever(int seeing, int seen) {
        PresenceGrants x = States.marked(1 + seen);
        if (seeing != 1) {
            x.stop(0, 1);
        }
        if (seeing == 4) {
            x.ask(0, 1);
        }
        States.loseAll(x);
        Check.same("marks", x.entry(0, 1), seeing + seen);
        return x;
    }

    private static void hereArrives(int seeing, int seen, boolean there) {
        Check.sentence("here: if sees is set, and b is there, the view of this seat becomes the mood of the message");
        PresenceGrants x = seenByWhoever(seeing, seen);
        if (there) {
            x.turnOn(0, 1, 0, 0);
            Check.settle(x);
        }
        // The probe of one who sees no more is not sent, so the marks are still as they were.
        Check.same("marks still", x.entry(0, 1), seeing + seen);
        for (int seat = 0; seat < 3; seat++) {
            int mood = 4 - 2 * seat;
            x.turnOn(1, seat, 0, mood);
            loseAllButHere(x);
            arrives("marks " + (seeing + seen) + (there ? ", there" : ""), x, seeing + seen, "");
            Check.same("view of seat " + seat, x.view(0, 1, seat), seeing == 1 && there ? mood : -1);
        }
    }

    /** Leaves the newest message, a here, and loses the probes before it. */
    private static void loseAllButHere(PresenceGrants x) {
        for (int left = x.underWay(); left > 1; left--) {
            x.lose(0);
        }
        Check.same("a here", x.message(0, 0), 4);
    }

    private static void goneArrives(int seeing, int seen) {
        Check.sentence("gone: the view of this seat becomes none");
        PresenceGrants x = seenByWhoever(seeing, seen);
        x.turnOn(0, 1, 0, 0);
        x.turnOn(1, 1, 0, 3);
        Check.settle(x);
        Check.same("view before", x.view(0, 1, 1), seeing == 1 ? 3 : -1);
        x.turnOff(1, 1);
        arrives("marks " + (seeing + seen), x, seeing + seen, "");
        Check.views("after", x, 0, 1, -1, -1, -1);
    }

    private static void probeArrives(int seen, int seats) {
        Check.sentence("probe: if seen is set, b shows itself to a; otherwise b sends a refuse to a");
        PresenceGrants x = seated(seats, 2);
        if (seen == 8) {
            seesAndIsAsking(x);
        } else if (seen == 0) {
            x.refuse(0, 1);
            States.loseAll(x);
        }
        Check.same("user 1 sees", x.entry(1, 0) & 1, 1);
        x.turnOn(1, 1, 0, 4);
        arrives("marks " + seen + ", seats " + seats, x, seen, seen == 2 ? shown(seats) : "refuse 0>1");
    }

    /** User 1 comes to see user 0 again, while a second ask of it has just set asking there. */
    private static void seesAndIsAsking(PresenceGrants x) {
        x.stop(1, 0);
        Check.settle(x);
        x.ask(1, 0);
        x.deliver(1);
        x.stop(1, 0);
        x.lose(0);
        x.ask(1, 0);
        x.grant(0, 1);
        x.refuse(0, 1);
        for (int left = x.underWay(); left > 2; left--) {
            x.lose(2);
        }
        Check.post("before", x, "ask 1>0, grant 0>1");
        Check.settle(x);
    }

    private static void hereOfASeatThatIsOffByNow() {
        Check.sentence("whatever the seat is like by now");
        PresenceGrants x = States.marked(1);
        x.turnOn(0, 0, 0, 0);
        Check.settle(x);
        x.turnOn(1, 2, 0, 0);
        x.turnOn(1, 2, 0, 4);
        x.turnOff(1, 2);
        int[] due = {0, 4, -1};
        for (int mood : due) {
            x.deliver(1);
            Check.views("off by now", x, 0, 1, -1, -1, mood);
        }
    }

    private static void goneOfOneSeat() {
        Check.sentence("gone: the view of this seat becomes none");
        PresenceGrants x = States.marked(1);
        x.turnOn(0, 0, 0, 0);
        for (int seat = 0; seat < 3; seat++) {
            x.turnOn(1, seat, 0, seat);
        }
        Check.settle(x);
        Check.views("all", x, 0, 1, 0, 1, 2);
        x.turnOff(1, 2);
        x.deliver(1);
        Check.views("without the last", x, 0, 1, 0, 1, -1);
        x.turnOff(1, 0);
        x.deliver(1);
        Check.views("without the first", x, 0, 1, -1, 1, -1);
    }

    private interface Sender {
        void on(PresenceGrants x);
    }

    /** User 0 sees user 1, and has a view of it; user 0 is seen, if that is asked for. */
    private static PresenceGrants acquainted(boolean bothWays) {
        PresenceGrants x = new PresenceGrants();
        x.turnOn(0, 0, 0, 1);
        x.turnOn(1, 0, 0, 2);
        x.turnOn(1, 1, 0, 3);
        Check.letSee(x, 0, 1);
        if (bothWays) {
            Check.letSee(x, 1, 0);
        }
        Check.views("acquainted", x, 0, 1, 2, 3, -1);
        return x;
    }

    /** In each case the messages are sent first, user 1 then blocks, and a gone of it may come behind. */
    private static void apartNothingHappens() {
        Check.sentence("and they are apart, nothing happens (but it has arrived, and counts so)");
        nothingHappens("ask", acquainted(false), x -> x.ask(1, 0), 3);
        nothingHappens("ask that meets seen", acquainted(true), x -> {
            x.stop(1, 0);
            x.lose(0);
            x.ask(1, 0);
        }, 3);
        PresenceGrants asking = new PresenceGrants();
        asking.turnOn(1, 0, 0, 2);
        asking.ask(0, 1);
        asking.deliver(1);
        nothingHappens("grant", asking, x -> x.grant(1, 0), 3);
        nothingHappens("stop", acquainted(true), x -> x.stop(1, 0), 3);
        nothingHappens("refuse", acquainted(false), x -> x.refuse(1, 0), 3);
        nothingHappens("here", acquainted(false), x -> x.turnOn(1, 2, 0, 4), 4);
        nothingHappens("gone", acquainted(false), x -> x.turnOff(1, 0), 2);
        PresenceGrants away = acquainted(true);
        away.turnOff(1, 0);
        away.turnOff(1, 1);
        Check.settle(away);
        nothingHappens("probe", away, x -> {
            x.turnOn(1, 2, 0, 4);
            x.lose(1);
        }, 2);
        PresenceGrants unseen = acquainted(true);
        unseen.turnOff(1, 0);
        unseen.turnOff(1, 1);
        unseen.refuse(0, 1);
        States.loseAll(unseen);
        nothingHappens("probe that meets no seen", unseen, x -> {
            x.turnOn(1, 2, 0, 4);
            x.lose(1);
        }, 2);
    }

    private static void nothingHappens(String what, PresenceGrants x, Sender sender, int due) {
        sender.on(x);
        x.block(1, 0, true);
        int underWay = x.underWay();
        Check.same(what + ": under way", underWay, due);
        String before = pair(x);
        int arrived = x.count(1);
        int sent = x.count(0);
        Check.same(what + ": deliver", x.deliver(1000), underWay);
        Check.same(what + ": arrived", x.count(1), arrived + underWay);
        Check.same(what + ": none under way", x.underWay(), 0);
        Check.same(what + ": nothing is sent", x.count(0), sent);
        Check.same(what + ": marks and views", pair(x), before);
    }

    private static String pair(PresenceGrants x) {
        StringBuilder told = new StringBuilder();
        for (int user = 0; user < 2; user++) {
            told.append(x.entry(user, 1 - user)).append(' ').append(x.version(user, -1)).append(' ');
            for (int seat = 0; seat < 3; seat++) {
                told.append(x.view(user, 1 - user, seat)).append(' ');
            }
        }
        return told.toString();
    }

    private static void apartByEitherSide() {
        Check.sentence("Two users are apart if one of them blocks the other one");
        for (int blocks = 0; blocks < 4; blocks++) {
            PresenceGrants x = new PresenceGrants();
            x.ask(0, 1);
            x.block(0, 1, (blocks & 1) != 0);
            x.block(1, 0, (blocks & 2) != 0);
            x.block(0, 2, true);
            x.block(1, 3, true);
            Check.same("deliver", x.deliver(1), 1);
            Check.same("asking with blocks " + blocks, x.entry(1, 0), blocks == 0 ? 8 : 0);
        }
    }
}
