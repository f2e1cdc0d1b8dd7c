/**
 * The boundary cases of promises 24 to 26: untilRest, agreeingAtRest, mostNeeded. That more than 1000 would arrive
 * can't be reached: an answer brings no answer, and the room holds 300, so that at most 600 arrive.
 */
public final class WhatIfEdgesTest {
    public static void main(String[] args) {
        untilRestOfNone();
        untilRestCountsEachSort();
        untilRestOfAFullRoom();
        untilRestOfTheMostThatCanBe();
        agreeingAtRestFromNoneToAll();
        agreeingAtRestIsNotNow();
        mostNeededOfNone();
        mostNeededOfOne();
        mostNeededOfSeveral();
        mostNeededIsTheNewestOfAll();
        mostNeededOfEachKind();
        lossesThatHelp();
        lossBeforeAnyOtherArrives();
        mostNeededWhileApart();
        Check.end("WhatIfEdgesTest");
    }

    private static void untilRestOfNone() {
        Check.sentence("Tells how many messages would arrive until none is under way");
        PresenceGrants x = new PresenceGrants();
        Check.same("new", x.untilRest(), 0);
        x.ask(0, 1);
        Check.same("one", x.untilRest(), 1);
        Check.same("still under way", x.underWay(), 1);
        x.lose(0);
        Check.same("none", x.untilRest(), 0);
    }

    private static void untilRestCountsEachSort() {
        Check.sentence("Tells how many messages would arrive");
        PresenceGrants x = States.friends();
        x.turnOn(0, 0, 0, 1);
        Check.same("a here", x.untilRest(), 1);
        x.stop(0, 1);
        Check.same("a stop, and a gone of one seat", x.untilRest(), 3);
        x.ask(0, 1);
        Check.same("an ask that meets no seen", x.untilRest(), 4);
        x.lose(1);
        Check.same("an ask that meets seen: a grant and a here", x.untilRest(), 4);
        x.block(1, 0, true);
        Check.same("apart: here, ask, gone of the block", x.untilRest(), 3);
        Check.same("as many arrive", x.deliver(1000), 3);
    }

    private static void untilRestOfAFullRoom() {
        Check.sentence("at most 300 at a time; a message that is sent while there are 300 is lost");
        Check.same("without answers", States.full().untilRest(), 300);
        PresenceGrants x = States.crowd();
        for (int user = 0; user < 5; user++) {
            x.turnOn(user, 0, 0, 0);
        }
        States.fill(x, 300);
        Check.same("five answers have room", x.untilRest(), 305);
        Check.same("nothing is lost by asking", x.count(2), 0);
    }

    private static void untilRestOfTheMostThatCanBe() {
        Check.sentence("NONE if more than 1000 would arrive");
        PresenceGrants x = new PresenceGrants();
        for (int other = 1; other < 6; other++) {
            Check.letSee(x, 0, other);
            x.turnOn(other, 0, 0, 0);
        }
        Check.settle(x);
        for (int i = 0; i < 60; i++) {
            x.turnOn(0, 0, 0, 0);
            x.turnOff(0, 0);
        }
        Check.same("300 probes", x.underWay(), 300);
        Check.same("each with one answer", x.untilRest(), 600);
        Check.same("agreeing", x.agreeingAtRest(), 15);
        Check.same("none is needed", x.mostNeeded(), 0);
        Check.same("as many arrive", x.deliver(1000), 600);
    }

    private static void agreeingAtRestFromNoneToAll() {
        Check.sentence("Returns 0 to 15");
        PresenceGrants x = new PresenceGrants();
        Check.same("all", x.agreeingAtRest(), 15);
        int due = 15;
        for (int user = 0; user < 6; user++) {
            for (int other = 0; other < user; other++) {
                x.ask(user, other);
                Check.same("one under way", x.agreeingAtRest(), due);
                x.lose(0);
                due--;
                Check.same("one lost", x.agreeingAtRest(), due);
            }
        }
        Check.same("none", x.agreeingAtRest(), 0);
    }

    private static void agreeingAtRestIsNotNow() {
        Check.sentence("after all messages have arrived, if nothing else happened");
        PresenceGrants x = States.marked(4);
        x.grant(1, 0);
        x.stop(0, 1);
        Check.same("now", x.agreeing(), 14);
        Check.same("at rest", x.agreeingAtRest(), 15);
        Check.same("still now", x.agreeing(), 14);
        PresenceGrants y = States.marked(1);
        y.refuse(1, 0);
        y.lose(0);
        Check.same("a refuse that is lost", y.agreeingAtRest(), 14);
        y.turnOn(0, 0, 0, 0);
        Check.same("a probe brings another one", y.agreeingAtRest(), 15);
        Check.same("that is not sent yet", y.underWay(), 1);
    }

    private static void mostNeededOfNone() {
        Check.sentence("NONE if no message is under way");
        PresenceGrants x = new PresenceGrants();
        Check.same("new", x.mostNeeded(), PresenceGrants.NONE);
        x.ask(0, 1);
        x.lose(0);
        Check.same("none, though a pair does not agree", x.mostNeeded(), PresenceGrants.NONE);
    }

    private static void mostNeededOfOne() {
        Check.sentence("Returns the index of the message");
        PresenceGrants x = new PresenceGrants();
        x.ask(0, 1);
        Check.same("the only one", x.mostNeeded(), 0);
        PresenceGrants y = States.friends();
        y.turnOn(0, 0, 0, 0);
        Check.same("the only one, not needed", y.mostNeeded(), 0);
    }

    private static void mostNeededOfSeveral() {
        Check.sentence("of several the lowest one");
        PresenceGrants x = States.friends();
        x.turnOn(0, 0, 0, 0);
        x.turnOff(0, 2);
        Check.same("none is needed", x.mostNeeded(), 0);
        x.ask(2, 3);
        Check.same("the ask", x.mostNeeded(), 2);
        x.ask(3, 2);
        x.ask(4, 5);
        Check.same("the lowest of three", x.mostNeeded(), 2);
        x.lose(2);
        Check.same("the pair of the lost one does not agree anyhow", x.mostNeeded(), 3);
    }

    private static void mostNeededIsTheNewestOfAll() {
        Check.sentence("Finds the message under way whose loss would make the number of agreeing pairs least");
        PresenceGrants x = States.crowd();
        x.block(5, 0, true);
        for (int i = 0; i < 74; i++) {
            x.turnOn(5, 0, 0, 0);
        }
        Check.same("three gone and 74 here for four", x.underWay(), 299);
        Check.same("none is needed", x.mostNeeded(), 0);
        x.ask(0, 1);
        Check.same("full", x.underWay(), 300);
        Check.same("the newest", x.mostNeeded(), 299);
        x.lose(0);
        Check.same("the newest of 299", x.mostNeeded(), 298);
    }

    /** Before the message a here of user 3 is under way, which is never needed. */
    private static void mostNeededOfEachKind() {
        Check.sentence("whose loss now would make the number of agreeing pairs at rest least");
        isNeeded("ask", 0, x -> x.ask(0, 1));
        isNeeded("grant", 4, x -> x.grant(1, 0));
        isNeeded("stop", 1, x -> x.stop(0, 1));
        isNeeded("refuse", 1, x -> x.refuse(1, 0));
        isNeeded("probe that brings a refuse", 1, x -> {
            x.refuse(1, 0);
            x.lose(1);
            x.turnOn(0, 0, 0, 0);
        });
        PresenceGrants shown = States.marked(1);
        Check.letSee(shown, 2, 3);
        shown.turnOn(3, 0, 0, 0);
        shown.turnOn(0, 0, 0, 0);
        Check.same("a probe that brings a here is not needed", shown.mostNeeded(), 0);
        PresenceGrants granted = States.marked(1);
        Check.letSee(granted, 2, 3);
        granted.stop(0, 1);
        granted.lose(0);
        granted.turnOn(3, 0, 0, 0);
        granted.ask(0, 1);
        Check.same("an ask that brings a grant", granted.mostNeeded(), 1);
    }

    private static void isNeeded(String what, int marks, Twins.Call call) {
        PresenceGrants x = States.marked(marks);
        Check.letSee(x, 2, 3);
        x.turnOn(3, 0, 0, 0);
        call.on(x);
        Check.same(what + ": two under way", x.underWay(), 2);
        Check.same(what + ": all agree at rest", x.agreeingAtRest(), 15);
        Check.same(what, x.mostNeeded(), 1);
    }

    private static void lossesThatHelp() {
        Check.sentence("would make the number of agreeing pairs at rest least");
        PresenceGrants late = new PresenceGrants();
        late.ask(0, 1);
        late.stop(0, 1);
        late.lose(1);
        Check.same("an ask whose stop is lost", late.agreeingAtRest(), 14);
        Check.same("the only one, though its loss helps", late.mostNeeded(), 0);
        Check.letSee(late, 2, 3);
        late.ask(0, 4);
        late.stop(0, 4);
        late.turnOn(3, 0, 0, 0);
        late.lose(1);
        late.lose(1);
        Check.post("a here and a stop are lost", late, "ask 0>4");
        Check.same("an index that is one no more is not told", late.mostNeeded(), 0);
        PresenceGrants x = States.marked(4);
        x.refuse(1, 0);
        x.stop(0, 1);
        x.ask(0, 1);
        Check.same("the refuse meets the new ask", x.agreeingAtRest(), 14);
        // Without the refuse, or without the ask, they agree; without the stop they do not, as with all.
        Check.same("the one whose loss does not help", x.mostNeeded(), 1);
        x.ask(2, 3);
        Check.same("one whose loss makes it worse", x.mostNeeded(), 3);
    }

    private static void lossBeforeAnyOtherArrives() {
        Check.sentence("whose loss now, before any other one arrives");
        PresenceGrants x = new PresenceGrants();
        x.ask(0, 1);
        x.stop(0, 1);
        x.ask(0, 1);
        x.stop(0, 1);
        Check.same("the last stop alone is needed", x.mostNeeded(), 3);
        x.lose(3);
        Check.same("without it all lead to disagreement, but for the second stop", x.agreeingAtRest(), 14);
        Check.same("the lowest", x.mostNeeded(), 0);
    }

    private static void mostNeededWhileApart() {
        Check.sentence("and they are apart, nothing happens");
        PresenceGrants x = new PresenceGrants();
        x.ask(0, 1);
        x.ask(2, 3);
        x.block(1, 0, true);
        Check.same("the ask that does nothing is not needed", x.mostNeeded(), 1);
        x.block(1, 0, false);
        Check.same("not apart", x.mostNeeded(), 0);
    }
}
