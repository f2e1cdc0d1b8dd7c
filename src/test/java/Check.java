/** What the tests share: compares answers, counts what is wrong, and brings objects into a state. */
final class Check {
    static final int NONE = PresenceGrants.NONE;
    static final Class<?> INDEX = IndexOutOfBoundsException.class;
    static final Class<?> ARGUMENT = IllegalArgumentException.class;
    static final Class<?> STATE = IllegalStateException.class;

    private static final String[] KINDS = {"ask", "grant", "stop", "refuse", "here", "gone", "probe"};

    private static int made;
    private static int wrong;
    private static String sentence = "";

    private Check() {
    }

    /** The sentence of the document that the next answers belong to; it is told with each wrong one. */
    static void sentence(String words) {
        sentence = "'" + words + "': ";
    }

    private static void tellWrong(String what, Object got, Object due) {
        wrong++;
        System.out.println(sentence + what + " answered " + got + ", due is " + due);
    }

    static void same(String what, long got, long due) {
        made++;
        if (got != due) {
            tellWrong(what, got, due);
        }
    }

    static void same(String what, String got, String due) {
        made++;
        if (!got.equals(due)) {
            tellWrong(what, got, due);
        }
    }

    static void same(String what, boolean got, boolean due) {
        same(what, got ? 1 : 0, due ? 1 : 0);
    }

    static void same(String what, double got, double due) {
        made++;
        if (Double.compare(got, due) != 0) {
            tellWrong(what, got, due);
        }
    }

    /** The call throws just this class (none below it, as the machine throws). */
    static void throwsJust(String what, Class<?> due, Runnable call) {
        made++;
        Class<?> got = null;
        try {
            call.run();
        } catch (RuntimeException e) {
            got = e.getClass();
        }
        if (got != due) {
            tellWrong(what, got, due);
        }
    }

    /** The call throws just this class, and leaves the digest as it was. */
    static void fails(String what, PresenceGrants x, Class<?> due, Runnable call) {
        long before = x.digest();
        throwsJust(what, due, call);
        same("digest after the failed " + what, x.digest(), before);
    }

    /** All messages under way, such as "grant 1>0, here 1>0 2:4", with seat and mood where they have some. */
    static void post(String what, PresenceGrants x, String due) {
        StringBuilder told = new StringBuilder();
        int size = x.underWay();
        for (int i = 0; i < size; i++) {
            told.append(i == 0 ? "" : ", ").append(KINDS[x.message(i, 0)]).append(' ');
            told.append(x.message(i, 1)).append('>').append(x.message(i, 2));
            int seat = x.message(i, 3);
            int mood = x.message(i, 4);
            told.append(seat == NONE ? "" : " " + seat).append(mood == NONE ? "" : ":" + mood);
        }
        same(what + ": under way", told.toString(), due);
    }

    static void message(String what, PresenceGrants x, int index, int... parts) {
        for (int part = 0; part < parts.length; part++) {
            same(what + ": message(" + index + ", " + part + ")", x.message(index, part), parts[part]);
        }
    }

    static void views(String what, PresenceGrants x, int user, int other, int... moods) {
        for (int seat = 0; seat < moods.length; seat++) {
            same(what + ": view(" + user + ", " + other + ", " + seat + ")", x.view(user, other, seat), moods[seat]);
        }
    }

    /** Lets all arrive that is under way. */
    static void settle(PresenceGrants x) {
        x.deliver(1000);
        same("underWay() at rest", x.underWay(), 0);
    }

    /** Lets user see other, and all arrive. */
    static void letSee(PresenceGrants x, int user, int other) {
        x.ask(user, other);
        settle(x);
        x.grant(other, user);
        settle(x);
    }

    static void write(PresenceGrants x, String text) {
        x.clearText();
        for (int i = 0; i < text.length(); i++) {
            same("append of byte " + i + " of " + text, x.append(text.charAt(i)), i + 1);
        }
    }

    /** How many states are saved, told by undoing them all. */
    static int undoAll(PresenceGrants x) {
        int undone = 0;
        while (true) {
            try {
                x.undo();
            } catch (IllegalStateException e) {
                return undone;
            }
            undone++;
        }
    }

    static void end(String name) {
        System.out.println(name + ": " + made + " answers looked at, " + wrong + " wrong");
        if (wrong != 0 || made == 0) {
            System.exit(1);
        }
    }
}
