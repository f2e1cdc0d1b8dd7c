/**
 * Two objects with the same past, of which one gets a call more that must not show. They are compared in all that
 * an object keeps: what digest tells, each saved state, and the text by what its orders do.
 */
final class Twins {
    interface Maker {
        PresenceGrants make();
    }

    interface Call {
        void on(PresenceGrants x);
    }

    private Twins() {
    }

    /** The call throws just this class, and changes nothing. */
    static void refused(String what, Maker maker, Class<?> due, Call call) {
        PresenceGrants x = maker.make();
        Check.throwsJust(what, due, () -> call.on(x));
        alike("after the refused " + what, x, maker.make());
    }

    /** The call throws nothing, and changes nothing. */
    static void unchanged(String what, Maker maker, Call call) {
        PresenceGrants x = maker.make();
        call.on(x);
        alike("after " + what, x, maker.make());
    }

    /** Uses both objects up: their states are undone, their texts carried out and emptied. */
    static void alike(String what, PresenceGrants x, PresenceGrants y) {
        Check.same(what + ": digest", x.digest(), y.digest());
        int undone = 0;
        int left;
        do {
            left = undo(x);
            Check.same(what + ": undo " + undone, left, undo(y));
            Check.same(what + ": digest after undo " + undone, x.digest(), y.digest());
            undone++;
        } while (left >= 0 && undone <= 5);
        Check.same(what + ": carryOut", x.carryOut(), y.carryOut());
        Check.same(what + ": digest after carryOut", x.digest(), y.digest());
        Check.same(what + ": clearText", x.clearText(), y.clearText());
    }

    private static int undo(PresenceGrants x) {
        try {
            return x.undo();
        } catch (IllegalStateException e) {
            return -1;
        }
    }
}
