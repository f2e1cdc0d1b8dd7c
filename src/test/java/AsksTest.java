/** Promises 2 to 6: ask, grant, refuse, stop and block, and what happens as their messages arrive. */
public final class AsksTest {
    public static void main(String[] args) {
        askSetsAskedAndSends();
        askDoesNothingIfSeesOrAsked();
        askLooksAtItsOwnMarksOnly();
        arrivingAskFindsSeen();
        grantTurnsAskingIntoSeen();
        arrivingGrantWantsAsked();
        refuseTakesSeenAway();
        refuseTakesAskingAwayWithoutHiding();
        arrivingRefuseForgetsViews();
        stopTakesSeesAway();
        stopTakesAskedAway();
        arrivingStopHidesInEitherCase();
        arrivingStopWithoutMarks();
        blockHidesFirst();
        blockHidesFromNobodyUnseen();
        blockEndsWithProbeAndShow();
        blockEndsUnseenOrAbsent();
        blockOnBothSides();
        apartUsersGetNothing();
        allAreUndoableThoughNothingChanges();
        Check.end("AsksTest");
    }

    private static void askSetsAskedAndSends() {
        PresenceGrants x = new PresenceGrants();
        Check.same("ask(2, 4)", x.ask(2, 4), 1);
        Check.same("entry(2, 4)", x.entry(2, 4), 4);
        Check.same("entry(4, 2)", x.entry(4, 2), 0);
        Check.same("underWay", x.underWay(), 1);
        Check.message("ask", x, 0, 0, 2, 4, -1, -1);
        Check.same("version(2, NONE)", x.version(2, -1), 1);
        Check.same("version(2, 4)", x.version(2, 4), 1);
        Check.settle(x);
        Check.same("entry(4, 2) after arrival", x.entry(4, 2), 8);
        Check.same("version(4, 2) after arrival", x.version(4, 2), 1);
    }

    private static void askDoesNothingIfSeesOrAsked() {
        PresenceGrants x = new PresenceGrants();
        x.ask(0, 1);
        Check.same("ask with asked", x.ask(0, 1), 0);
        Check.same("underWay after ask with asked", x.underWay(), 1);
        Check.settle(x);
        x.grant(1, 0);
        Check.settle(x);
        Check.same("entry(0, 1)", x.entry(0, 1), 1);
        Check.same("ask with sees", x.ask(0, 1), 0);
        Check.same("underWay after ask with sees", x.underWay(), 0);
        Check.same("entry(0, 1) stays", x.entry(0, 1), 1);
        Check.same("version(0, NONE)", x.version(0, -1), 2);
    }

    private static void askLooksAtItsOwnMarksOnly() {
        PresenceGrants x = new PresenceGrants();
        x.ask(0, 1);
        Check.settle(x);
        Check.same("ask with asking", x.ask(1, 0), 1);
        Check.same("entry with asking", x.entry(1, 0), 12);
        x.undo();
        x.grant(1, 0);
        Check.same("ask with seen", x.ask(1, 0), 1);
        Check.same("entry with seen", x.entry(1, 0), 6);
    }

    private static void arrivingAskFindsSeen() {
        PresenceGrants x = new PresenceGrants();
        Check.letSee(x, 0, 1);
        x.turnOn(1, 2, 0, 3);
        x.turnOn(1, 0, -5, 1);
        Check.settle(x);
        // User 0 loses its sees by a stop that is lost, so that user 1 still has seen.
        x.stop(0, 1);
        x.lose(0);
        Check.same("ask after the lost stop", x.ask(0, 1), 1);
        int version = x.version(1, -1);
        Check.same("ask arrives", x.deliver(1), 1);
        Check.same("underWay after it", x.underWay(), 3);
        Check.message("grant", x, 0, 1, 1, 0, -1, -1);
        Check.message("here of seat 0", x, 1, 4, 1, 0, 0, 1);
        Check.message("here of seat 2", x, 2, 4, 1, 0, 2, 3);
        Check.same("seen alone stays", x.entry(1, 0), 2);
        Check.same("its version stays", x.version(1, -1), version);
    }

    private static void grantTurnsAskingIntoSeen() {
        PresenceGrants x = new PresenceGrants();
        x.turnOn(1, 2, 0, 4);
        x.turnOn(1, 0, 0, 2);
        x.ask(0, 1);
        Check.same("grant before the ask arrives", x.grant(1, 0), 0);
        Check.settle(x);
        Check.same("grant", x.grant(1, 0), 1);
        Check.same("entry(1, 0)", x.entry(1, 0), 2);
        Check.same("one change", x.version(1, 0), 2);
        Check.same("underWay", x.underWay(), 3);
        Check.message("grant", x, 0, 1, 1, 0, -1, -1);
        Check.message("here of seat 0", x, 1, 4, 1, 0, 0, 2);
        Check.message("here of seat 2", x, 2, 4, 1, 0, 2, 4);
        Check.same("grant again", x.grant(1, 0), 0);
        Check.same("grant of the one who asked", x.grant(0, 1), 0);
        Check.same("underWay stays", x.underWay(), 3);
        Check.settle(x);
        Check.same("entry(0, 1)", x.entry(0, 1), 1);
        Check.same("one change there", x.version(0, 1), 2);
        Check.views("user 0 is not there", x, 0, 1, -1, -1, -1);
    }

    private static void arrivingGrantWantsAsked() {
        PresenceGrants x = new PresenceGrants();
        x.ask(0, 1);
        Check.settle(x);
        x.grant(1, 0);
        x.stop(0, 1);
        Check.same("version", x.version(0, -1), 2);
        x.deliver(1);
        Check.same("entry without asked", x.entry(0, 1), 0);
        Check.same("version stays", x.version(0, -1), 2);
        Check.settle(x);
        Check.same("entry(1, 0) after the stop", x.entry(1, 0), 0);
    }

    private static void refuseTakesSeenAway() {
        PresenceGrants x = new PresenceGrants();
        x.turnOn(0, 0, 0, 0);
        Check.letSee(x, 0, 1);
        x.turnOn(1, 2, 0, 4);
        x.turnOn(1, 1, 0, 2);
        Check.settle(x);
        Check.views("seen", x, 0, 1, -1, 2, 4);
        Check.same("refuse with seen", x.refuse(1, 0), 1);
        Check.same("entry(1, 0)", x.entry(1, 0), 0);
        Check.same("version(1, 0)", x.version(1, 0), 3);
        Check.same("underWay", x.underWay(), 3);
        Check.message("refuse", x, 0, 3, 1, 0, -1, -1);
        Check.message("gone of seat 1", x, 1, 5, 1, 0, 1, -1);
        Check.message("gone of seat 2", x, 2, 5, 1, 0, 2, -1);
        Check.same("refuse again", x.refuse(1, 0), 0);
        Check.same("underWay stays", x.underWay(), 3);
        Check.settle(x);
        Check.same("entry(0, 1)", x.entry(0, 1), 0);
    }

    private static void refuseTakesAskingAwayWithoutHiding() {
        PresenceGrants x = new PresenceGrants();
        x.turnOn(1, 0, 0, 0);
        x.ask(0, 1);
        Check.settle(x);
        Check.same("refuse with asking", x.refuse(1, 0), 1);
        Check.same("entry(1, 0)", x.entry(1, 0), 0);
        Check.same("only the refuse is under way", x.underWay(), 1);
        Check.message("refuse", x, 0, 3, 1, 0, -1, -1);
        Check.settle(x);
        Check.same("asked is taken away", x.entry(0, 1), 0);
        Check.same("refuse without marks", x.refuse(1, 0), 0);
        x.ask(0, 1);
        Check.same("refuse of the one who asked", x.refuse(0, 1), 0);
        Check.same("its asked stays", x.entry(0, 1), 4);
    }

    private static void arrivingRefuseForgetsViews() {
        PresenceGrants x = new PresenceGrants();
        x.turnOn(0, 0, 0, 0);
        x.turnOn(1, 0, 0, 1);
        x.turnOn(1, 1, 0, 2);
        x.turnOn(2, 1, 0, 3);
        Check.letSee(x, 0, 1);
        Check.letSee(x, 0, 2);
        x.refuse(1, 0);
        int version = x.version(0, -1);
        x.deliver(1);
        Check.views("refused", x, 0, 1, -1, -1, -1);
        Check.views("another user's stay", x, 0, 2, -1, 3, -1);
        Check.same("entry(0, 1)", x.entry(0, 1), 0);
        Check.same("one change", x.version(0, -1), version + 1);
    }

    private static void stopTakesSeesAway() {
        PresenceGrants x = new PresenceGrants();
        x.turnOn(0, 0, 0, 0);
        x.turnOn(1, 0, 0, 1);
        x.turnOn(1, 1, 0, 2);
        x.turnOn(2, 2, 0, 3);
        Check.letSee(x, 0, 1);
        Check.letSee(x, 0, 2);
        Check.letSee(x, 1, 0);
        Check.same("stop with sees", x.stop(0, 1), 1);
        Check.same("seen stays", x.entry(0, 1), 2);
        Check.views("stopped", x, 0, 1, -1, -1, -1);
        Check.views("another user's stay", x, 0, 2, -1, -1, 3);
        Check.views("the other one's stay", x, 1, 0, 0, -1, -1);
        Check.same("only the stop is under way", x.underWay(), 1);
        Check.message("stop", x, 0, 2, 0, 1, -1, -1);
        Check.same("stop again", x.stop(0, 1), 0);
        Check.same("underWay stays", x.underWay(), 1);
        x.deliver(1);
        Check.same("sees stays there", x.entry(1, 0), 1);
        Check.same("the stopped one hides", x.underWay(), 2);
        Check.message("gone of seat 0", x, 0, 5, 1, 0, 0, -1);
        Check.message("gone of seat 1", x, 1, 5, 1, 0, 1, -1);
    }

    private static void stopTakesAskedAway() {
        PresenceGrants x = new PresenceGrants();
        x.ask(0, 1);
        Check.same("stop with asked", x.stop(0, 1), 1);
        Check.same("entry(0, 1)", x.entry(0, 1), 0);
        Check.same("two changes", x.version(0, 1), 2);
        Check.same("ask and stop are under way", x.underWay(), 2);
        Check.message("stop", x, 1, 2, 0, 1, -1, -1);
        Check.same("stop without marks", x.stop(0, 1), 0);
        Check.same("stop of the asked one", x.stop(1, 0), 0);
        Check.settle(x);
        Check.same("asking came and went", x.version(1, 0), 2);
        Check.same("entry(1, 0)", x.entry(1, 0), 0);
    }

    private static void arrivingStopHidesInEitherCase() {
        PresenceGrants x = new PresenceGrants();
        x.turnOn(1, 1, 0, 2);
        x.ask(0, 1);
        Check.settle(x);
        x.stop(0, 1);
        x.deliver(1);
        Check.same("asking is taken away", x.entry(1, 0), 0);
        Check.same("hides though only asking was set", x.underWay(), 1);
        Check.message("gone", x, 0, 5, 1, 0, 1, -1);
    }

    private static void arrivingStopWithoutMarks() {
        PresenceGrants x = new PresenceGrants();
        x.turnOn(1, 1, 0, 2);
        x.ask(0, 1);
        x.lose(0);
        x.stop(0, 1);
        Check.same("stop arrives", x.deliver(9), 1);
        Check.same("nothing is hidden", x.underWay(), 0);
        Check.same("version", x.version(1, -1), 0);
    }

    private static void blockHidesFirst() {
        PresenceGrants x = States.friends();
        Check.same("block", x.block(0, 1, true), 1);
        Check.same("hides from the blocked one", x.underWay(), 2);
        Check.message("gone of seat 0", x, 0, 5, 0, 1, 0, -1);
        Check.message("gone of seat 2", x, 1, 5, 0, 1, 2, -1);
        Check.views("its views are none", x, 0, 1, -1, -1, -1);
        Check.views("the other one's stay", x, 1, 0, 1, -1, 2);
        Check.same("marks stay", x.entry(0, 1), 3);
        Check.same("apart", x.areApart(0, 1), true);
        Check.same("apart the other way", x.areApart(1, 0), true);
        Check.same("block again", x.block(0, 1, true), 0);
        Check.same("underWay stays", x.underWay(), 2);
        Check.same("both arrive", x.deliver(9), 2);
        Check.same("and are counted", x.count(1), x.count(0));
        Check.views("nothing happened", x, 1, 0, 1, -1, 2);
    }

    private static void blockHidesFromNobodyUnseen() {
        PresenceGrants x = new PresenceGrants();
        x.turnOn(0, 0, 0, 1);
        x.turnOn(1, 0, 0, 2);
        Check.letSee(x, 0, 1);
        x.ask(1, 0);
        Check.settle(x);
        Check.same("block with asking alone", x.block(0, 1, true), 1);
        Check.same("nothing is sent", x.underWay(), 0);
        Check.views("its views are none", x, 0, 1, -1, -1, -1);
    }

    private static void blockEndsWithProbeAndShow() {
        PresenceGrants x = States.friends();
        x.block(0, 1, true);
        Check.settle(x);
        Check.same("no block of the other one", x.block(1, 0, false), 0);
        Check.same("end of the block", x.block(0, 1, false), 1);
        Check.same("not apart", x.areApart(1, 0), false);
        Check.same("underWay", x.underWay(), 3);
        Check.message("probe", x, 0, 6, 0, 1, -1, -1);
        Check.message("here of seat 0", x, 1, 4, 0, 1, 0, 1);
        Check.message("here of seat 2", x, 2, 4, 0, 1, 2, 2);
        Check.same("end of no block", x.block(0, 1, false), 0);
        Check.same("underWay stays", x.underWay(), 3);
        Check.settle(x);
        Check.views("shown again", x, 0, 1, 3, -1, -1);
    }

    private static void blockEndsUnseenOrAbsent() {
        PresenceGrants x = States.friends();
        x.turnOff(0, 0);
        x.turnOff(0, 2);
        Check.settle(x);
        x.block(0, 1, true);
        Check.same("end of the block of one who is not there", x.block(0, 1, false), 1);
        Check.same("no probe, no here", x.underWay(), 0);
        PresenceGrants y = new PresenceGrants();
        y.turnOn(0, 1, 0, 3);
        Check.letSee(y, 0, 1);
        y.block(0, 1, true);
        Check.settle(y);
        y.block(0, 1, false);
        Check.same("a probe alone without seen", y.underWay(), 1);
        Check.message("probe", y, 0, 6, 0, 1, -1, -1);
        PresenceGrants z = new PresenceGrants();
        z.turnOn(0, 1, 0, 3);
        Check.letSee(z, 1, 0);
        z.block(0, 1, true);
        Check.settle(z);
        z.block(0, 1, false);
        Check.same("a here alone without sees", z.underWay(), 1);
        Check.message("here", z, 0, 4, 0, 1, 1, 3);
    }

    private static void blockOnBothSides() {
        PresenceGrants x = States.friends();
        x.block(0, 1, true);
        Check.settle(x);
        int sent = x.count(0);
        Check.same("block of the other one", x.block(1, 0, true), 1);
        Check.same("nothing is sent while apart", x.count(0), sent);
        Check.views("its views are none", x, 1, 0, -1, -1, -1);
        Check.same("end of one block", x.block(0, 1, false), 1);
        Check.same("still apart", x.areApart(0, 1), true);
        Check.same("nothing is sent while apart", x.count(0), sent);
        Check.same("end of the other block", x.block(1, 0, false), 1);
        Check.same("not apart", x.areApart(0, 1), false);
        Check.same("probe and here", x.count(0), sent + 2);
    }

    private static void apartUsersGetNothing() {
        PresenceGrants x = new PresenceGrants();
        x.turnOn(1, 0, 0, 0);
        x.ask(0, 1);
        Check.settle(x);
        x.block(0, 1, true);
        Check.same("grant while apart", x.grant(1, 0), 1);
        Check.same("marks change all the same", x.entry(1, 0), 2);
        Check.same("ask while apart", x.ask(1, 0), 1);
        Check.same("refuse while apart", x.refuse(1, 0), 1);
        Check.same("stop while apart", x.stop(1, 0), 1);
        Check.same("nothing under way", x.underWay(), 0);
        Check.same("nothing sent but the ask before", x.count(0), 1);
        Check.same("nothing lost", x.count(2), 0);
        Check.same("another pair is not apart", x.areApart(0, 2), false);
    }

    private static void allAreUndoableThoughNothingChanges() {
        PresenceGrants x = new PresenceGrants();
        x.grant(0, 1);
        x.refuse(0, 1);
        x.stop(0, 1);
        Check.same("three states saved", Check.undoAll(x), 3);
        x.block(0, 1, false);
        Check.same("one state saved", Check.undoAll(x), 1);
        x.ask(0, 1);
        x.ask(0, 1);
        Check.same("undo", x.undo(), 1);
        Check.same("asked stays", x.entry(0, 1), 4);
        Check.same("undo again", x.undo(), 0);
        Check.same("asked is undone", x.entry(0, 1), 0);
        Check.same("the message is undone", x.underWay(), 0);
    }
}
