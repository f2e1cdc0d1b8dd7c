/**
 * Each refused call of each method, in several states: which exception it is, in the order in which the document
 * lists them, and that it changes nothing.
 */
public final class RefusedTest {
    private static final int[] NO_USERS = {-1, -2, -6, 6, 7, 11, 1 << 30, Integer.MIN_VALUE, Integer.MAX_VALUE};
    private static final int[] NO_SEATS = {-1, -3, 3, 4, 5, 1 << 30, Integer.MIN_VALUE, Integer.MAX_VALUE};

    private interface PairCall {
        void on(PresenceGrants x, int user, int other);
    }

    private final String state;
    private final Twins.Maker maker;

    private RefusedTest(String state, Twins.Maker maker) {
        this.state = state;
        this.maker = maker;
    }

    public static void main(String[] args) {
        Check.sentence("A call that throws an exception changes nothing. The one that is listed first is thrown");
        new RefusedTest("new", () -> new PresenceGrants()).refuseAll();
        new RefusedTest("busy", () -> States.busy()).refuseAll();
        new RefusedTest("full", () -> States.fullOfAll()).refuseAll();
        fullText();
        seatsThatAreOff();
        messagesThatAreNot();
        undoOfNothing();
        Check.end("RefusedTest");
    }

    private void refuseAll() {
        pairs("ask", (x, user, other) -> x.ask(user, other));
        pairs("grant", (x, user, other) -> x.grant(user, other));
        pairs("refuse", (x, user, other) -> x.refuse(user, other));
        pairs("stop", (x, user, other) -> x.stop(user, other));
        pairs("block", (x, user, other) -> x.block(user, other, true));
        pairs("end of block", (x, user, other) -> x.block(user, other, false));
        pairs("entry", (x, user, other) -> x.entry(user, other));
        pairs("areApart", (x, user, other) -> x.areApart(user, other));
        pairs("agree", (x, user, other) -> x.agree(user, other));
        pairs("view", (x, user, other) -> x.view(user, other, 0));
        pairs("view of the last seat", (x, user, other) -> x.view(user, other, 2));
        turnOn();
        seats();
        users();
        versions();
        messages();
        values();
    }

    private void refused(String what, Class<?> due, Twins.Call call) {
        Twins.refused(what + " in the state " + state, maker, due, call);
    }

    /** No such user stands before the same user twice, on either side. */
    private void pairs(String name, PairCall call) {
        for (int bad : NO_USERS) {
            refused(name + "(" + bad + ", 0)", Check.INDEX, x -> call.on(x, bad, 0));
            refused(name + "(5, " + bad + ")", Check.INDEX, x -> call.on(x, 5, bad));
            refused(name + "(" + bad + ", " + bad + ")", Check.INDEX, x -> call.on(x, bad, bad));
        }
        refused(name + "(-1, 6)", Check.INDEX, x -> call.on(x, -1, 6));
        for (int user = 0; user < 6; user++) {
            int same = user;
            refused(name + " of the same user " + user, Check.ARGUMENT, x -> call.on(x, same, same));
        }
    }

    /** No such user or seat stands before a rank or mood out of range. */
    private void turnOn() {
        for (int bad : NO_USERS) {
            refused("turnOn of user " + bad, Check.INDEX, x -> x.turnOn(bad, 0, 0, 0));
            refused("turnOn of user " + bad + " with rank 10", Check.INDEX, x -> x.turnOn(bad, 0, 10, 0));
            refused("turnOn of user " + bad + " with mood -1", Check.INDEX, x -> x.turnOn(bad, 2, 0, -1));
        }
        for (int bad : NO_SEATS) {
            refused("turnOn of seat " + bad, Check.INDEX, x -> x.turnOn(1, bad, 0, 0));
            refused("turnOn of seat " + bad + " with rank -10", Check.INDEX, x -> x.turnOn(1, bad, -10, 0));
            refused("turnOn of seat " + bad + " with mood 5", Check.INDEX, x -> x.turnOn(5, bad, 0, 5));
        }
        refused("turnOn with all wrong", Check.INDEX, x -> x.turnOn(6, 3, 10, 5));
        for (int bad : new int[] {-10, -11, 10, 11, 1 << 30, Integer.MIN_VALUE, Integer.MAX_VALUE}) {
            refused("turnOn with rank " + bad, Check.ARGUMENT, x -> x.turnOn(0, 2, bad, 0));
            refused("turnOn with rank and mood " + bad, Check.ARGUMENT, x -> x.turnOn(0, 2, bad, bad));
        }
        for (int bad : new int[] {-1, -2, 5, 6, 1 << 30, Integer.MIN_VALUE, Integer.MAX_VALUE}) {
            refused("turnOn with mood " + bad, Check.ARGUMENT, x -> x.turnOn(5, 0, 0, bad));
        }
    }

    private void seats() {
        for (int bad : NO_USERS) {
            refused("turnOff of user " + bad, Check.INDEX, x -> x.turnOff(bad, 0));
            refused("turnOff of user " + bad + " and no seat", Check.INDEX, x -> x.turnOff(bad, 3));
            refused("seat of user " + bad, Check.INDEX, x -> x.seat(bad, 0, 0));
            refused("seat of user " + bad + " with what 3", Check.INDEX, x -> x.seat(bad, 0, 3));
        }
        for (int bad : NO_SEATS) {
            refused("turnOff of seat " + bad, Check.INDEX, x -> x.turnOff(1, bad));
            refused("seat " + bad, Check.INDEX, x -> x.seat(1, bad, 0));
            refused("seat " + bad + " with what -1", Check.INDEX, x -> x.seat(5, bad, -1));
            refused("view of seat " + bad, Check.INDEX, x -> x.view(0, 1, bad));
            refused("view of one's own seat " + bad, Check.INDEX, x -> x.view(3, 3, bad));
            refused("view of seat " + bad + " of user 6", Check.INDEX, x -> x.view(0, 6, bad));
            refused("seat with what " + bad, Check.ARGUMENT, x -> x.seat(0, 0, bad));
        }
        // Of user 3 no seat is on in any of these states.
        for (int seat = 0; seat < 3; seat++) {
            int off = seat;
            refused("turnOff of seat " + off + ", which was never on", Check.STATE, x -> x.turnOff(3, off));
        }
    }

    private void users() {
        for (int bad : NO_USERS) {
            refused("bestSeat(" + bad + ")", Check.INDEX, x -> x.bestSeat(bad));
            refused("wrongViews(" + bad + ")", Check.INDEX, x -> x.wrongViews(bad));
        }
    }

    /** NONE stands for the roster as the other user alone. */
    private void versions() {
        for (int bad : NO_USERS) {
            refused("version(" + bad + ", 0)", Check.INDEX, x -> x.version(bad, 0));
            refused("version(" + bad + ", NONE)", Check.INDEX, x -> x.version(bad, Check.NONE));
            refused("version(" + bad + ", " + bad + ")", Check.INDEX, x -> x.version(bad, bad));
            if (bad != Check.NONE) {
                refused("version(0, " + bad + ")", Check.INDEX, x -> x.version(0, bad));
            }
            refused("changedSince(" + bad + ", 0)", Check.INDEX, x -> x.changedSince(bad, 0));
            refused("changedSince(" + bad + ", -1)", Check.INDEX, x -> x.changedSince(bad, -1));
        }
        for (int user = 0; user < 6; user++) {
            int same = user;
            refused("version of the same user " + user, Check.ARGUMENT, x -> x.version(same, same));
            refused("changedSince -1 of user " + user, Check.ARGUMENT, x -> x.changedSince(same, -1));
        }
        refused("changedSince(0, lowest)", Check.ARGUMENT, x -> x.changedSince(0, Integer.MIN_VALUE));
    }

    private void messages() {
        int size = maker.make().underWay();
        for (int bad : new int[] {-1, -300, size, size + 1, 300, 1 << 30, Integer.MIN_VALUE, Integer.MAX_VALUE}) {
            refused("lose(" + bad + ")", Check.INDEX, x -> x.lose(bad));
            refused("message(" + bad + ", 0)", Check.INDEX, x -> x.message(bad, 0));
            refused("message(" + bad + ", -1)", Check.INDEX, x -> x.message(bad, -1));
            refused("message(" + bad + ", 5)", Check.INDEX, x -> x.message(bad, 5));
        }
        for (int bad : new int[] {-1, 5, 6, 1 << 30, Integer.MIN_VALUE, Integer.MAX_VALUE}) {
            if (size > 0) {
                refused("message(0, " + bad + ")", Check.ARGUMENT, x -> x.message(0, bad));
                refused("message of the newest, " + bad, Check.ARGUMENT, x -> x.message(size - 1, bad));
            }
        }
    }

    private void values() {
        for (int bad : new int[] {-1, -1000, 1001, 1002, 1 << 30, Integer.MIN_VALUE, Integer.MAX_VALUE}) {
            refused("deliver(" + bad + ")", Check.ARGUMENT, x -> x.deliver(bad));
        }
        for (int bad : new int[] {-1, 3, 4, 1 << 30, Integer.MIN_VALUE, Integer.MAX_VALUE}) {
            refused("count(" + bad + ")", Check.ARGUMENT, x -> x.count(bad));
        }
        // A full text has room for none, but a wrong value is listed first.
        for (int bad : new int[] {-1, -128, 128, 255, 256 + 97, 1 << 30, Integer.MIN_VALUE, Integer.MAX_VALUE}) {
            refused("append(" + bad + ")", Check.ARGUMENT, x -> x.append(bad));
        }
    }

    private static void fullText() {
        for (int value : new int[] {0, 59, 97, 127}) {
            Twins.refused("append(" + value + ") to 100 bytes", () -> States.fullOfAll(), Check.STATE,
                x -> x.append(value));
        }
    }

    private static void seatsThatAreOff() {
        Twins.Maker wasOn = () -> {
            PresenceGrants x = States.friends();
            x.turnOff(0, 2);
            return x;
        };
        Twins.refused("turnOff of a seat that was on", wasOn, Check.STATE, x -> x.turnOff(0, 2));
        Twins.refused("turnOff of a seat beside one that is on", wasOn, Check.STATE, x -> x.turnOff(0, 1));
        Twins.refused("turnOff of no seat", wasOn, Check.INDEX, x -> x.turnOff(0, 3));
    }

    /** A message that has arrived, or is lost, is no message under way any more. */
    private static void messagesThatAreNot() {
        Twins.Maker arrived = () -> {
            PresenceGrants x = new PresenceGrants();
            x.ask(0, 1);
            x.ask(0, 2);
            x.deliver(1);
            return x;
        };
        Twins.Maker lost = () -> {
            PresenceGrants x = arrived.make();
            x.lose(0);
            return x;
        };
        Twins.refused("lose(1) of one", arrived, Check.INDEX, x -> x.lose(1));
        Twins.refused("message(1, 0) of one", arrived, Check.INDEX, x -> x.message(1, 0));
        Twins.refused("lose(0) of none", lost, Check.INDEX, x -> x.lose(0));
        Twins.refused("message(0, 0) of none", lost, Check.INDEX, x -> x.message(0, 0));
        Twins.refused("message(0, 5) of none", lost, Check.INDEX, x -> x.message(0, 5));
    }

    private static void undoOfNothing() {
        Twins.refused("undo of a new object", () -> new PresenceGrants(), Check.STATE, x -> x.undo());
        Twins.Maker emptied = () -> {
            PresenceGrants x = States.busy();
            for (int left = 3; left >= 0; left--) {
                Check.same("undo", x.undo(), left);
            }
            return x;
        };
        Twins.refused("undo after four", emptied, Check.STATE, x -> x.undo());
    }
}
