/**
 * Promises 24 to 26: untilRest, agreeingAtRest, mostNeeded. No run reaches more than 1000 arrivals: a message
 * that answers another one brings no further answer, and 300 have room, so that at most 600 arrive.
 */
public final class WhatIfTest {
    public static void main(String[] args) {
        untilRestCountsAnswers();
        agreeingAtRestLooksAhead();
        mostNeededTakesTheLeast();
        mostNeededTakesTheLowestOfSeveral();
        mostNeededMayHelp();
        mostNeededLooksAtTheStateNow();
        aFullRoomIsTriedAsItIs();
        nothingIsChanged();
        Check.end("WhatIfTest");
    }

    private static void untilRestCountsAnswers() {
        PresenceGrants x = new PresenceGrants();
        x.turnOn(1, 0, 0, 0);
        x.turnOn(1, 1, 0, 0);
        x.turnOn(1, 2, 0, 0);
        Check.letSee(x, 0, 1);
        Check.same("at rest", x.untilRest(), 0);
        x.turnOn(0, 0, 0, 0);
        Check.same("a probe and three answers", x.untilRest(), 4);
        x.ask(4, 5);
        Check.same("and an ask", x.untilRest(), 5);
        Check.same("as many arrive", x.deliver(1000), 5);
        Check.same("at rest", x.untilRest(), 0);
    }

    private static void agreeingAtRestLooksAhead() {
        PresenceGrants x = new PresenceGrants();
        x.ask(0, 1);
        Check.same("now", x.agreeing(), 14);
        Check.same("at rest", x.agreeingAtRest(), 15);
        x.lose(0);
        Check.same("after a loss", x.agreeingAtRest(), 14);
        x.ask(2, 3);
        x.block(2, 3, true);
        Check.same("while apart", x.agreeingAtRest(), 13);
        Check.same("now", x.agreeing(), 13);
        x.block(2, 3, false);
        Check.same("after the end of the block", x.agreeingAtRest(), 14);
    }

    private static void mostNeededTakesTheLeast() {
        PresenceGrants x = new PresenceGrants();
        Check.same("nothing under way", x.mostNeeded(), -1);
        x.turnOn(0, 0, 0, 0);
        x.turnOn(1, 0, 0, 0);
        Check.letSee(x, 0, 1);
        x.turnOn(1, 0, 0, 1);
        Check.same("a here is not needed for marks", x.mostNeeded(), 0);
        x.ask(2, 3);
        Check.same("the ask is", x.mostNeeded(), 1);
        x.turnOn(1, 0, 0, 2);
        Check.same("still it", x.mostNeeded(), 1);
        x.lose(1);
        Check.same("without it", x.mostNeeded(), 0);
    }

    private static void mostNeededTakesTheLowestOfSeveral() {
        PresenceGrants x = new PresenceGrants();
        x.ask(0, 1);
        x.ask(2, 3);
        x.ask(4, 5);
        Check.same("the lowest", x.mostNeeded(), 0);
        x.stop(0, 1);
        // Without the ask the stop finds nothing: the pair agrees. Without the stop it does not.
        Check.same("an ask that is stopped is not needed", x.mostNeeded(), 1);
    }

    private static void mostNeededMayHelp() {
        PresenceGrants x = new PresenceGrants();
        x.ask(2, 3);
        x.deliver(1);
        x.refuse(3, 2);
        x.stop(2, 3);
        x.ask(2, 3);
        Check.same("the refuse meets the new ask", x.agreeingAtRest(), 14);
        Check.same("the loss of the refuse or of the ask would help", x.mostNeeded(), 1);
        x.lose(1);
        x.lose(1);
        Check.same("the refuse alone", x.agreeingAtRest(), 15);
        Check.same("a loss that makes it worse", x.mostNeeded(), 0);
    }

    private static void mostNeededLooksAtTheStateNow() {
        PresenceGrants x = new PresenceGrants();
        Check.letSee(x, 0, 1);
        x.ask(2, 3);
        x.lose(0);
        Check.same("a pair that does not agree", x.agreeingAtRest(), 14);
        x.stop(2, 3);
        Check.settle(x);
        x.turnOn(1, 0, 0, 0);
        x.ask(4, 5);
        Check.same("the ask, not the here before it", x.mostNeeded(), 1);
    }

    /** With 300 under way each probe has room for one answer, of three. */
    private static void aFullRoomIsTriedAsItIs() {
        PresenceGrants x = States.crowd();
        for (int user = 0; user < 5; user++) {
            x.turnOn(user, 0, 0, 0);
        }
        States.fill(x, 300);
        Check.same("each probe has one answer with room", x.untilRest(), 305);
        Check.same("agreeing at rest", x.agreeingAtRest(), 15);
        Check.same("none is needed", x.mostNeeded(), 0);
        Check.same("as many arrive", x.deliver(1000), 305);
    }

    private static void nothingIsChanged() {
        PresenceGrants x = new PresenceGrants();
        x.turnOn(0, 0, 0, 1);
        x.ask(0, 1);
        x.ask(1, 2);
        x.deliver(1);
        long before = x.digest();
        x.untilRest();
        x.agreeingAtRest();
        x.mostNeeded();
        Check.same("digest", x.digest(), before);
        Check.same("saved states", Check.undoAll(x), 4);
    }
}
