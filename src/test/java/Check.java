/** What the tests share: compares answers, counts what is wrong, and brings objects into a state. */
final class Check {
    static final int NONE = PresenceGrants.NONE;
    static final Class<?> INDEX = IndexOutOfBoundsException.class;
    static final Class<?> ARGUMENT = IllegalArgumentException.class;
    static final Class<?> STATE = IllegalStateException.class;
    static final int[] NO_USERS = {-1, 6, 7, Integer.MIN_VALUE, Integer.MAX_VALUE};
    static final int[] NO_SEATS = {-1, 3, 4, Integer.MIN_VALUE, Integer.MAX_VALUE};

    private static int made;
    private static int wrong;

    interface PairCall {
        void call(PresenceGrants x, int user, int other);
    }

    private Check() {
    }

    static void same(String what, long got, long due) {
        made++;
        if (got != due) {
            wrong++;
            System.out.println(what + " answered " + got + ", due is " + due);
        }
    }

    static void same(String what, boolean got, boolean due) {
        same(what, got ? 1 : 0, due ? 1 : 0);
    }

    static void same(String what, double got, double due) {
        made++;
        if (Double.compare(got, due) != 0) {
            wrong++;
            System.out.println(what + " answered " + got + ", due is " + due);
        }
    }

    /** The call throws just this class (none below it, as the machine throws), and changes nothing. */
    static void fails(String what, PresenceGrants x, Class<?> due, Runnable call) {
        made++;
        long before = x.digest();
        Class<?> got = null;
        try {
            call.run();
        } catch (RuntimeException e) {
            got = e.getClass();
        }
        if (got != due) {
            wrong++;
            System.out.println(what + " throws " + got + ", due is " + due);
        }
        same("digest after the failed " + what, x.digest(), before);
    }

    /** What each method with two users throws for users that do not exist, and for the same user twice. */
    static void pairFails(String name, PresenceGrants x, PairCall call) {
        for (int bad : NO_USERS) {
            fails(name + "(" + bad + ", 0)", x, INDEX, () -> call.call(x, bad, 0));
            fails(name + "(0, " + bad + ")", x, INDEX, () -> call.call(x, 0, bad));
            fails(name + "(" + bad + ", " + bad + ")", x, INDEX, () -> call.call(x, bad, bad));
        }
        for (int user = 0; user < 6; user++) {
            int same = user;
            fails(name + " of the same user " + user, x, ARGUMENT, () -> call.call(x, same, same));
        }
    }

    static void message(String what, PresenceGrants x, int index, int... parts) {
        for (int part = 0; part < parts.length; part++) {
            same(what + ": message(" + index + ", " + part + ")", x.message(index, part), parts[part]);
        }
    }

    static void views(String what, PresenceGrants x, int user, int other, int... moods) {
        for (int seat = 0; seat < moods.length; seat++) {
            same(what + ": view(" + user + ", " + other + ", " + seat + ")", x.view(user, other, seat), moods[seat]);
        }
    }

    /** Lets all arrive that is under way. */
    static void settle(PresenceGrants x) {
        x.deliver(1000);
        same("underWay() at rest", x.underWay(), 0);
    }

    /** Lets user see other, and all arrive. */
    static void letSee(PresenceGrants x, int user, int other) {
        x.ask(user, other);
        settle(x);
        x.grant(other, user);
        settle(x);
    }

    static void write(PresenceGrants x, String text) {
        x.clearText();
        for (int i = 0; i < text.length(); i++) {
            same("append of byte " + i + " of " + text, x.append(text.charAt(i)), i + 1);
        }
    }

    /** How many states are saved, told by undoing them all. */
    static int undoAll(PresenceGrants x) {
        int undone = 0;
        while (true) {
            try {
                x.undo();
            } catch (IllegalStateException e) {
                return undone;
            }
            undone++;
        }
    }

    static void end(String name) {
        System.out.println(name + ": " + made + " answers looked at, " + wrong + " wrong");
        if (wrong != 0 || made == 0) {
            System.exit(1);
        }
    }
}
