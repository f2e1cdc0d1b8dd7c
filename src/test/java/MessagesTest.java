/** Promises 11 to 15: deliver, lose, underWay, message, count. */
public final class MessagesTest {
    public static void main(String[] args) {
        deliverTakesTheOldestFirst();
        deliverTakesWhatIsSentMeanwhile();
        loseTakesOneOut();
        roomIsForThreeHundred();
        anArrivingMessageLeavesRoomForItsAnswer();
        countsGoBackWithUndo();
        manyRoundsOfTheRoom();
        Check.end("MessagesTest");
    }

    private static void deliverTakesTheOldestFirst() {
        PresenceGrants x = new PresenceGrants();
        Check.same("deliver of nothing", x.deliver(1000), 0);
        x.ask(0, 1);
        x.ask(2, 3);
        x.ask(4, 5);
        Check.same("deliver(0)", x.deliver(0), 0);
        Check.same("underWay", x.underWay(), 3);
        Check.same("deliver(2)", x.deliver(2), 2);
        Check.same("underWay", x.underWay(), 1);
        Check.same("first arrived", x.entry(1, 0), 8);
        Check.same("second arrived", x.entry(3, 2), 8);
        Check.same("third has not", x.entry(5, 4), 0);
        Check.message("third", x, 0, 0, 4, 5, -1, -1);
        Check.same("deliver(9)", x.deliver(9), 1);
        Check.same("arrived", x.count(1), 3);
        Check.same("five states saved, four kept", Check.undoAll(x), 4);
    }

    private static void deliverTakesWhatIsSentMeanwhile() {
        PresenceGrants x = new PresenceGrants();
        x.turnOn(1, 0, 0, 1);
        x.turnOn(1, 2, 0, 2);
        Check.letSee(x, 0, 1);
        x.turnOn(0, 0, 0, 0);
        Check.same("only the probe is under way", x.underWay(), 1);
        Check.same("the answers arrive, too", x.deliver(1000), 3);
        Check.views("shown", x, 0, 1, 1, -1, 2);
        x.turnOff(0, 0);
        x.turnOn(0, 0, 0, 0);
        Check.same("until so many have arrived", x.deliver(2), 2);
        Check.views("the first seat", x, 0, 1, 1, -1, -1);
        Check.same("underWay", x.underWay(), 1);
    }

    private static void loseTakesOneOut() {
        PresenceGrants x = new PresenceGrants();
        x.ask(0, 1);
        x.ask(0, 2);
        x.stop(0, 1);
        x.ask(0, 3);
        Check.same("lose(2)", x.lose(2), 2);
        Check.same("underWay", x.underWay(), 3);
        Check.message("first", x, 0, 0, 0, 1, -1, -1);
        Check.message("second", x, 1, 0, 0, 2, -1, -1);
        Check.message("third", x, 2, 0, 0, 3, -1, -1);
        Check.same("lost", x.count(2), 1);
        Check.same("sent", x.count(0), 4);
        Check.same("lose(0)", x.lose(0), 0);
        Check.same("lose(1), the newest", x.lose(1), 0);
        Check.message("the last one", x, 0, 0, 0, 2, -1, -1);
        Check.same("lost", x.count(2), 3);
        Check.same("arrived", x.count(1), 0);
        Check.same("undo", x.undo(), 3);
        Check.same("lost", x.count(2), 2);
        Check.message("back again", x, 1, 0, 0, 3, -1, -1);
    }

    private static void roomIsForThreeHundred() {
        PresenceGrants x = States.crowd();
        int sent = x.count(0);
        States.fill(x, 295);
        x.ask(0, 1);
        x.ask(1, 0);
        x.turnOn(5, 2, 0, 4);
        Check.same("the room is full", x.underWay(), 300);
        Check.same("two were lost", x.count(2), 2);
        Check.same("and count as sent", x.count(0), sent + 302);
        Check.message("the last one that had room", x, 299, 4, 5, 2, 2, 4);
        Check.same("ask in a full room", x.ask(2, 3), 1);
        Check.same("asked is set", x.entry(2, 3), 4);
        Check.same("still full", x.underWay(), 300);
        Check.same("three were lost", x.count(2), 3);
        x.block(2, 3, true);
        x.ask(3, 2);
        Check.same("what is not sent is not lost", x.count(2), 3);
        Check.same("all arrive", x.deliver(1000), 300);
    }

    private static void anArrivingMessageLeavesRoomForItsAnswer() {
        PresenceGrants x = States.crowd();
        x.turnOn(0, 0, 0, 0);
        Check.same("a probe of user 0", x.message(0, 0), 6);
        for (int i = 0; i < 4; i++) {
            x.ask(i, (i + 1) % 5);
        }
        States.fill(x, 300);
        int lost = x.count(2);
        x.deliver(1);
        Check.same("one answer of three has room", x.underWay(), 300);
        Check.same("two are lost", x.count(2), lost + 2);
        Check.message("the answer", x, 299, 4, 5, 0, 0, 0);
    }

    private static void countsGoBackWithUndo() {
        PresenceGrants x = new PresenceGrants();
        x.ask(0, 1);
        x.deliver(1);
        x.ask(0, 2);
        x.lose(0);
        Check.same("sent", x.count(0), 2);
        Check.same("arrived", x.count(1), 1);
        Check.same("lost", x.count(2), 1);
        x.undo();
        x.undo();
        x.undo();
        Check.same("sent", x.count(0), 1);
        Check.same("arrived", x.count(1), 0);
        Check.same("lost", x.count(2), 0);
    }

    private static void manyRoundsOfTheRoom() {
        PresenceGrants x = States.crowd();
        for (int round = 0; round < 70; round++) {
            x.turnOn(5, round % 3, 0, round % 5);
            int newest = x.underWay() - 1;
            Check.same("seat of the newest", x.message(newest, 3), round % 3);
            Check.same("mood of the newest", x.message(newest, 4), round % 5);
            x.deliver(round % 2 == 0 ? 4 : 6);
        }
        Check.same("underWay", x.underWay(), 0);
    }
}
