/** Promises 7 to 10: turnOn, turnOff, bestSeat, seat. */
public final class SeatsTest {
    public static void main(String[] args) {
        turnOnCountsSeats();
        turnOnProbesFirstThenTells();
        turnOnTellsThoughNothingIsDifferent();
        probesAreAnswered();
        hereIsTakenOnlyByOneWhoSeesAndIsThere();
        turnOffTellsAndForgets();
        bestSeatIsTheHighestRank();
        seatTellsTheLatestTime();
        allAreUndoable();
        Check.end("SeatsTest");
    }

    private static void turnOnCountsSeats() {
        PresenceGrants x = new PresenceGrants();
        Check.same("first seat", x.turnOn(3, 1, -9, 0), 1);
        Check.same("same seat", x.turnOn(3, 1, 9, 4), 1);
        Check.same("second seat", x.turnOn(3, 0, 0, 1), 2);
        Check.same("third seat", x.turnOn(3, 2, 0, 2), 3);
        Check.same("another user's seat", x.turnOn(5, 2, 0, 2), 1);
        Check.same("turnOff", x.turnOff(3, 1), 2);
        Check.same("turnOff", x.turnOff(3, 0), 1);
        Check.same("turnOff of the last one", x.turnOff(3, 2), 0);
        Check.same("nobody sees, nothing is sent", x.count(0), 0);
    }

    /** User 2 sees 0 and 4, and is seen by 1 and 5. */
    private static PresenceGrants between() {
        PresenceGrants x = new PresenceGrants();
        Check.letSee(x, 2, 4);
        Check.letSee(x, 2, 0);
        Check.letSee(x, 5, 2);
        Check.letSee(x, 1, 2);
        return x;
    }

    private static void turnOnProbesFirstThenTells() {
        PresenceGrants x = between();
        Check.same("turnOn", x.turnOn(2, 1, 3, 4), 1);
        Check.same("underWay", x.underWay(), 4);
        Check.message("probe", x, 0, 6, 2, 0, -1, -1);
        Check.message("probe", x, 1, 6, 2, 4, -1, -1);
        Check.message("here", x, 2, 4, 2, 1, 1, 4);
        Check.message("here", x, 3, 4, 2, 5, 1, 4);
        Check.settle(x);
        x.turnOn(2, 0, 0, 1);
        Check.same("no probe for a second seat", x.underWay(), 2);
        Check.message("here", x, 0, 4, 2, 1, 0, 1);
        Check.message("here", x, 1, 4, 2, 5, 0, 1);
    }

    private static void turnOnTellsThoughNothingIsDifferent() {
        PresenceGrants x = between();
        x.turnOn(2, 1, 3, 4);
        Check.settle(x);
        x.turnOn(2, 1, 3, 4);
        Check.same("told again", x.underWay(), 2);
        Check.message("here", x, 0, 4, 2, 1, 1, 4);
    }

    private static void probesAreAnswered() {
        PresenceGrants x = new PresenceGrants();
        Check.letSee(x, 0, 1);
        x.turnOn(1, 2, 0, 4);
        x.turnOn(1, 0, 0, 1);
        Check.settle(x);
        x.turnOn(0, 0, 0, 0);
        x.deliver(1);
        Check.same("probe with seen", x.underWay(), 2);
        Check.message("here", x, 0, 4, 1, 0, 0, 1);
        Check.message("here", x, 1, 4, 1, 0, 2, 4);
        Check.settle(x);
        Check.views("shown", x, 0, 1, 1, -1, 4);
        // A refuse that is lost leaves user 0 with sees; its next probe brings another refuse.
        x.turnOff(0, 0);
        x.refuse(1, 0);
        x.lose(0);
        Check.settle(x);
        x.turnOn(0, 0, 0, 0);
        x.deliver(1);
        Check.same("probe without seen", x.underWay(), 1);
        Check.message("refuse", x, 0, 3, 1, 0, -1, -1);
        Check.same("sees until it arrives", x.entry(0, 1), 1);
        Check.settle(x);
        Check.same("sees is taken away", x.entry(0, 1), 0);
    }

    private static void hereIsTakenOnlyByOneWhoSeesAndIsThere() {
        PresenceGrants x = new PresenceGrants();
        Check.letSee(x, 0, 1);
        x.turnOn(1, 1, 0, 3);
        Check.settle(x);
        Check.views("not there", x, 0, 1, -1, -1, -1);
        x.turnOn(0, 0, 0, 0);
        Check.settle(x);
        x.turnOn(1, 1, 0, 2);
        x.turnOff(1, 1);
        x.deliver(1);
        Check.views("whatever the seat is like by now", x, 0, 1, -1, 2, -1);
        Check.settle(x);
        Check.views("gone", x, 0, 1, -1, -1, -1);
        x.turnOn(1, 1, 0, 2);
        x.stop(0, 1);
        x.deliver(1);
        Check.views("without sees", x, 0, 1, -1, -1, -1);
    }

    private static void turnOffTellsAndForgets() {
        PresenceGrants x = between();
        x.turnOn(0, 1, 0, 3);
        x.turnOn(2, 0, 0, 1);
        x.turnOn(2, 2, 0, 2);
        Check.settle(x);
        Check.views("seen", x, 2, 0, -1, 3, -1);
        Check.same("turnOff", x.turnOff(2, 0), 1);
        Check.same("underWay", x.underWay(), 2);
        Check.message("gone", x, 0, 5, 2, 1, 0, -1);
        Check.message("gone", x, 1, 5, 2, 5, 0, -1);
        Check.views("still there", x, 2, 0, -1, 3, -1);
        int sent = x.count(0);
        Check.settle(x);
        Check.same("a gone has no answer", x.count(0), sent);
        Check.same("turnOff of the last one", x.turnOff(2, 2), 0);
        Check.same("underWay", x.underWay(), 2);
        Check.message("gone", x, 0, 5, 2, 1, 2, -1);
        Check.views("not there any more", x, 2, 0, -1, -1, -1);
    }

    private static void bestSeatIsTheHighestRank() {
        PresenceGrants x = new PresenceGrants();
        x.turnOn(4, 1, -1, 0);
        Check.same("a rank below 0", x.bestSeat(4), -1);
        x.turnOn(4, 2, 0, 0);
        Check.same("a rank of 0", x.bestSeat(4), 2);
        x.turnOn(4, 0, 0, 0);
        Check.same("the lowest seat of several", x.bestSeat(4), 0);
        x.turnOn(4, 1, 5, 0);
        Check.same("the highest rank", x.bestSeat(4), 1);
        x.turnOn(4, 2, 5, 0);
        Check.same("the lower one of two", x.bestSeat(4), 1);
        x.turnOff(4, 1);
        Check.same("one that is on", x.bestSeat(4), 2);
        x.turnOff(4, 2);
        x.turnOff(4, 0);
        Check.same("none that is on", x.bestSeat(4), -1);
        Check.same("another user", x.bestSeat(3), -1);
    }

    private static void seatTellsTheLatestTime() {
        PresenceGrants x = new PresenceGrants();
        x.turnOn(1, 2, -9, 4);
        x.turnOn(1, 1, 9, 0);
        seatIs(x, 1, 2, 1, -9, 4);
        seatIs(x, 1, 1, 1, 9, 0);
        seatIs(x, 1, 0, 0, 0, 0);
        seatIs(x, 2, 2, 0, 0, 0);
        x.turnOff(1, 2);
        seatIs(x, 1, 2, 0, -9, 4);
        x.turnOn(1, 2, 3, 1);
        seatIs(x, 1, 2, 1, 3, 1);
    }

    private static void seatIs(PresenceGrants x, int user, int seat, int on, int rank, int mood) {
        Check.same("on", x.seat(user, seat, 0), on);
        Check.same("rank", x.seat(user, seat, 1), rank);
        Check.same("mood", x.seat(user, seat, 2), mood);
    }

    private static void allAreUndoable() {
        PresenceGrants x = new PresenceGrants();
        x.turnOn(0, 0, 2, 3);
        x.turnOn(0, 0, 2, 3);
        x.turnOff(0, 0);
        Check.same("undo of turnOff", x.undo(), 2);
        seatIs(x, 0, 0, 1, 2, 3);
        Check.same("undo of turnOn without a difference", x.undo(), 1);
        seatIs(x, 0, 0, 1, 2, 3);
        Check.same("undo of turnOn", x.undo(), 0);
        seatIs(x, 0, 0, 0, 0, 0);
    }
}
