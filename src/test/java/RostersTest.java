/** Promises 16 to 23 and 27: entry, version, changedSince, view, areApart, agree, agreeing, wrongViews, visible. */
public final class RostersTest {
    public static void main(String[] args) {
        entryTellsAllMarks();
        versionsCountChanges();
        changedSinceLooksAtEntries();
        viewTellsMoods();
        areApartLooksBothWays();
        agreeComparesAllMarks();
        agreeingCountsPairs();
        wrongViewsOfEachSort();
        visibleCountsPairs();
        askingChangesNothing();
        Check.end("RostersTest");
    }

    private static void entryTellsAllMarks() {
        PresenceGrants x = new PresenceGrants();
        x.ask(0, 1);
        Check.same("asked", x.entry(0, 1), 4);
        x.ask(1, 0);
        x.deliver(1);
        Check.same("asked and asking", x.entry(1, 0), 12);
        x.grant(1, 0);
        Check.same("asked and seen", x.entry(1, 0), 6);
        Check.settle(x);
        Check.same("sees and asking", x.entry(0, 1), 9);
        x.grant(0, 1);
        Check.same("sees and seen", x.entry(0, 1), 3);
        Check.settle(x);
        Check.same("sees and seen there", x.entry(1, 0), 3);
        x.stop(0, 1);
        Check.same("seen", x.entry(0, 1), 2);
        Check.settle(x);
        Check.same("sees", x.entry(1, 0), 1);
    }

    private static void versionsCountChanges() {
        PresenceGrants x = new PresenceGrants();
        x.ask(3, 0);
        x.ask(3, 5);
        x.ask(3, 5);
        x.stop(3, 0);
        Check.same("roster", x.version(3, -1), 3);
        Check.same("first entry", x.version(3, 0), 3);
        Check.same("second entry", x.version(3, 5), 2);
        Check.same("an entry that did not change", x.version(3, 1), 0);
        Check.same("another roster", x.version(0, -1), 0);
        Check.settle(x);
        Check.same("asking set and taken away", x.version(0, 3), 2);
        Check.same("asking set", x.version(5, 3), 1);
        // An ask that arrives again, after its stop was lost, finds asking set already.
        x.stop(3, 5);
        x.lose(0);
        x.ask(3, 5);
        Check.settle(x);
        Check.same("no change, no version", x.version(5, -1), 1);
    }

    private static void changedSinceLooksAtEntries() {
        PresenceGrants x = new PresenceGrants();
        x.ask(1, 0);
        x.ask(1, 2);
        x.ask(1, 5);
        x.stop(1, 0);
        Check.same("after 0", x.changedSince(1, 0), 3);
        Check.same("after 1", x.changedSince(1, 1), 3);
        Check.same("after 2", x.changedSince(1, 2), 2);
        Check.same("after 3", x.changedSince(1, 3), 1);
        Check.same("after 4", x.changedSince(1, 4), 0);
        Check.same("after the highest number", x.changedSince(1, Integer.MAX_VALUE), 0);
        Check.same("another roster", x.changedSince(0, 0), 0);
    }

    private static void viewTellsMoods() {
        PresenceGrants x = new PresenceGrants();
        x.turnOn(0, 0, 0, 0);
        Check.letSee(x, 0, 4);
        Check.letSee(x, 4, 0);
        for (int mood = 0; mood < 5; mood++) {
            x.turnOn(4, mood % 3, 0, mood);
            Check.settle(x);
            Check.same("mood", x.view(0, 4, mood % 3), mood);
        }
        Check.views("at last", x, 0, 4, 3, 4, 2);
        Check.views("the other way", x, 4, 0, 0, -1, -1);
        Check.views("of another user", x, 0, 3, -1, -1, -1);
        x.turnOff(4, 1);
        Check.settle(x);
        Check.views("one gone", x, 0, 4, 3, -1, 2);
    }

    private static void areApartLooksBothWays() {
        PresenceGrants x = new PresenceGrants();
        x.block(2, 5, true);
        Check.same("the one who blocks", x.areApart(2, 5), true);
        Check.same("the one who is blocked", x.areApart(5, 2), true);
        Check.same("another one", x.areApart(2, 4), false);
        x.block(2, 5, false);
        Check.same("after the end", x.areApart(5, 2), false);
    }

    private static void agreeComparesAllMarks() {
        PresenceGrants x = new PresenceGrants();
        x.ask(0, 1);
        agreeIs("asked without asking", x, false);
        Check.settle(x);
        agreeIs("asked with asking", x, true);
        x.grant(1, 0);
        agreeIs("seen without sees", x, false);
        Check.settle(x);
        agreeIs("seen with sees", x, true);
        x.ask(1, 0);
        agreeIs("asked the other way", x, false);
        Check.settle(x);
        agreeIs("sees and asking with seen and asked", x, true);
        x.grant(0, 1);
        Check.settle(x);
        agreeIs("sees and seen with both", x, true);
        x.stop(1, 0);
        agreeIs("seen with nothing", x, false);
        x.lose(0);
        x.refuse(0, 1);
        agreeIs("both took away", x, true);
    }

    private static void agreeIs(String what, PresenceGrants x, boolean due) {
        Check.same("agree(0, 1) with " + what, x.agree(0, 1), due);
        Check.same("agree(1, 0) with " + what, x.agree(1, 0), due);
        Check.same("agreeing() with " + what, x.agreeing(), due ? 15 : 14);
    }

    private static void agreeingCountsPairs() {
        PresenceGrants x = new PresenceGrants();
        int pairs = 15;
        for (int user = 0; user < 6; user++) {
            for (int other = user + 1; other < 6; other++) {
                x.ask(user, other);
                pairs--;
                Check.same("agreeing", x.agreeing(), pairs);
            }
        }
        x.ask(5, 0);
        Check.same("each pair once", x.agreeing(), 0);
        Check.settle(x);
        Check.same("at rest", x.agreeing(), 15);
    }

    private static void wrongViewsOfEachSort() {
        PresenceGrants x = new PresenceGrants();
        x.turnOn(0, 0, 0, 0);
        Check.letSee(x, 0, 1);
        x.turnOn(1, 0, 0, 1);
        x.turnOn(1, 2, 0, 2);
        Check.same("none although it is on", x.wrongViews(0), 2);
        Check.same("the other one sees nobody", x.wrongViews(1), 0);
        Check.settle(x);
        Check.same("as it is", x.wrongViews(0), 0);
        x.turnOn(1, 0, 0, 4);
        Check.same("another mood", x.wrongViews(0), 1);
        x.turnOff(1, 0);
        Check.same("a mood although it is off", x.wrongViews(0), 1);
        x.turnOff(1, 2);
        Check.same("both off", x.wrongViews(0), 2);
        Check.settle(x);
        Check.same("as it is", x.wrongViews(0), 0);
        x.turnOn(1, 1, 0, 3);
        x.lose(0);
        Check.same("none, and the message is lost", x.wrongViews(0), 1);
        x.turnOff(0, 0);
        Check.same("not there", x.wrongViews(0), 0);
        x.turnOn(0, 1, 0, 0);
        Check.same("there again", x.wrongViews(0), 1);
        x.deliver(1);
        x.deliver(1);
        Check.same("probed", x.wrongViews(0), 0);
    }

    private static void visibleCountsPairs() {
        PresenceGrants x = new PresenceGrants();
        x.turnOn(0, 0, 0, 0);
        x.turnOn(1, 0, 0, 0);
        x.turnOn(1, 1, 0, 0);
        Check.letSee(x, 0, 1);
        Check.same("two seats, one pair", x.visible(), 1 / 30.0);
        Check.letSee(x, 1, 0);
        Check.same("two pairs", x.visible(), 2 / 30.0);
        x.turnOff(1, 0);
        Check.settle(x);
        Check.same("still two", x.visible(), 2 / 30.0);
        for (int user = 2; user < 6; user++) {
            x.turnOn(user, 2, 0, 4);
        }
        for (int user = 0; user < 6; user++) {
            for (int other = 0; other < 6; other++) {
                if (user != other) {
                    Check.letSee(x, user, other);
                }
            }
        }
        Check.same("all pairs", x.visible(), 1.0);
        x.turnOff(5, 2);
        Check.settle(x);
        Check.same("without one user", x.visible(), 20 / 30.0);
    }

    private static void askingChangesNothing() {
        PresenceGrants x = new PresenceGrants();
        x.turnOn(0, 0, 0, 1);
        x.ask(0, 1);
        x.ask(1, 2);
        x.deliver(1);
        long before = x.digest();
        x.entry(0, 1);
        x.version(0, 1);
        x.changedSince(0, 0);
        x.view(0, 1, 0);
        x.areApart(0, 1);
        x.agree(0, 1);
        x.agreeing();
        x.wrongViews(0);
        x.visible();
        x.bestSeat(0);
        x.seat(0, 0, 0);
        x.message(0, 0);
        x.underWay();
        x.count(0);
        Check.same("digest", x.digest(), before);
        Check.same("saved states", Check.undoAll(x), 4);
    }
}
