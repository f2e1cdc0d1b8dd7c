/** The boundary cases of promises 16 to 23 and 27: entry, version, changedSince, view, areApart, agree and others. */
public final class RostersEdgesTest {
    public static void main(String[] args) {
        entryOfEachPair();
        versionOfRosterOrEntry();
        changedAfterAVersion();
        changedAfterTheHighestVersion();
        viewOfEachSeat();
        viewOfMoodNought();
        areApartOfEachPair();
        agreeingStates();
        sawWithoutSeen();
        askedWithoutAsking();
        agreeWhileApart();
        agreeingOfAllPairs();
        wrongThoughTheSeatIsOff();
        wrongMood();
        wrongNone();
        notWrongWithoutEachCondition();
        wrongViewsOfAllSeats();
        viewsOfOthersAreNotItsOwn();
        visibleFromNoneToAll();
        visibleCountsAPairOnce();
        visibleCountsWhatIsWrongToo();
        tellingChangesNothing();
        Check.end("RostersEdgesTest");
    }

    private static void entryOfEachPair() {
        Check.sentence("Returns the state, 0 to 15");
        States.eachPair((user, other) -> {
            PresenceGrants x = new PresenceGrants();
            x.ask(user, other);
            x.ask(other, user);
            x.deliver(1);
            x.grant(other, user);
            Check.same("asked", x.entry(user, other), 4);
            Check.same("seen and asked", x.entry(other, user), 6);
            x.deliver(1);
            Check.same("asked and asking", x.entry(user, other), 12);
            x.deliver(1);
            Check.same("sees and asking", x.entry(user, other), 9);
        });
    }

    private static void versionOfRosterOrEntry() {
        Check.sentence("Returns the version of a roster, or of an entry; NONE for the version of the roster");
        PresenceGrants x = new PresenceGrants();
        x.ask(5, 0);
        x.ask(5, 4);
        x.ask(5, 2);
        x.stop(5, 0);
        int[] due = {4, 0, 3, 0, 2};
        for (int other = 0; other < 5; other++) {
            Check.same("entry of " + other, x.version(5, other), due[other]);
        }
        Check.same("roster", x.version(5, PresenceGrants.NONE), 4);
        Check.same("another roster", x.version(0, PresenceGrants.NONE), 0);
    }

    private static void changedAfterAVersion() {
        Check.sentence("Returns the number of entries whose version is greater");
        PresenceGrants x = new PresenceGrants();
        Check.same("none of a new roster", x.changedSince(2, 0), 0);
        int[] others = {0, 1, 3, 4, 5};
        for (int i = 0; i < 5; i++) {
            x.ask(2, others[i]);
            Check.same("greater than 0", x.changedSince(2, 0), i + 1);
            Check.same("greater than the version before", x.changedSince(2, i), 1);
            Check.same("not greater than its own", x.changedSince(2, i + 1), 0);
        }
        x.stop(2, 0);
        int[] due = {5, 5, 4, 3, 2, 1, 0};
        for (int version = 0; version <= 6; version++) {
            Check.same("greater than " + version, x.changedSince(2, version), due[version]);
        }
    }

    private static void changedAfterTheHighestVersion() {
        Check.sentence("version: 0 or more");
        PresenceGrants x = States.friends();
        Check.same("the highest int", x.changedSince(0, Integer.MAX_VALUE), 0);
        Check.same("one less", x.changedSince(0, Integer.MAX_VALUE - 1), 0);
        Check.same("0", x.changedSince(0, 0), 1);
    }

    private static void viewOfEachSeat() {
        Check.sentence("Returns the mood; NONE if there is none");
        for (int user = 0; user < 6; user++) {
            int other = (user + 1) % 6;
            PresenceGrants x = new PresenceGrants();
            x.turnOn(user, 0, 0, 0);
            Check.letSee(x, user, other);
            for (int seat = 0; seat < 3; seat++) {
                x.turnOn(other, seat, 0, seat + 2);
            }
            Check.views("before they arrive", x, user, other, -1, -1, -1);
            x.deliver(1);
            Check.views("the first", x, user, other, 2, -1, -1);
            x.deliver(2);
            Check.views("all", x, user, other, 2, 3, 4);
            Check.views("the other way", x, other, user, -1, -1, -1);
        }
    }

    private static void viewOfMoodNought() {
        Check.sentence("a user a has a view: a mood, or none");
        PresenceGrants x = States.marked(1);
        x.turnOn(0, 0, 0, 0);
        x.turnOn(1, 0, 0, 0);
        Check.settle(x);
        Check.views("mood 0 is not none", x, 0, 1, 0, -1, -1);
        Check.same("and is visible", x.visible(), 1 / 30.0);
        Check.same("and is right", x.wrongViews(0), 0);
    }

    private static void areApartOfEachPair() {
        Check.sentence("Tells whether two users are apart");
        States.eachPair((user, other) -> {
            PresenceGrants x = new PresenceGrants();
            x.block(user, other, true);
            Check.same("apart", apartPairs(x), 2);
            Check.same("the one who blocks", x.areApart(user, other), true);
            Check.same("the other one", x.areApart(other, user), true);
            x.block(other, user, true);
            x.block(user, other, false);
            Check.same("the other one blocks", x.areApart(user, other), true);
            x.block(other, user, false);
            Check.same("none", apartPairs(x), 0);
        });
    }

    private static int apartPairs(PresenceGrants x) {
        int pairs = 0;
        for (int pair = 0; pair < 36; pair++) {
            pairs += pair / 6 != pair % 6 && x.areApart(pair / 6, pair % 6) ? 1 : 0;
        }
        return pairs;
    }

    private static void agreeingStates() {
        Check.sentence("each one's sees is the other one's seen, and each one's asked is the other one's asking");
        for (int marks : States.MARKS) {
            agrees("marks " + marks, States.marked(marks), true);
        }
    }

    private static void agrees(String what, PresenceGrants x, boolean due) {
        Check.same(what + ": agree", x.agree(0, 1), due);
        Check.same(what + ": agree the other way", x.agree(1, 0), due);
        Check.same(what + ": agreeing", x.agreeing(), due ? 15 : 14);
    }

    private static PresenceGrants losing(int marks, Twins.Call call) {
        PresenceGrants x = States.marked(marks);
        call.on(x);
        States.loseAll(x);
        return x;
    }

    private static void sawWithoutSeen() {
        Check.sentence("each one's sees is the other one's seen");
        agrees("sees alone", losing(1, x -> x.refuse(1, 0)), false);
        agrees("seen alone", losing(1, x -> x.stop(0, 1)), false);
        agrees("sees alone, the other way", losing(2, x -> x.refuse(0, 1)), false);
        agrees("seen alone, the other way", losing(2, x -> x.stop(1, 0)), false);
        agrees("one of two ways", losing(3, x -> x.stop(1, 0)), false);
        agrees("both lost", losing(1, x -> {
            x.stop(0, 1);
            x.refuse(1, 0);
        }), true);
        PresenceGrants crossed = losing(3, x -> {
            x.stop(0, 1);
            x.stop(1, 0);
        });
        Check.same("both seen alone", crossed.entry(0, 1) * 16 + crossed.entry(1, 0), 34);
        agrees("both seen alone", crossed, false);
    }

    private static void askedWithoutAsking() {
        Check.sentence("and each one's asked is the other one's asking");
        agrees("asked alone", losing(0, x -> x.ask(0, 1)), false);
        agrees("asked alone, the other way", losing(0, x -> x.ask(1, 0)), false);
        agrees("both asked alone", losing(0, x -> {
            x.ask(0, 1);
            x.ask(1, 0);
        }), false);
        agrees("asking alone", losing(4, x -> x.stop(0, 1)), false);
        agrees("asking alone, the other way", losing(8, x -> x.stop(1, 0)), false);
        agrees("asked with seen", losing(4, x -> x.grant(1, 0)), false);
        agrees("sees and asking, both without theirs", losing(9, x -> {
            x.stop(1, 0);
            x.refuse(1, 0);
        }), false);
    }

    private static void agreeWhileApart() {
        Check.sentence("Tells whether the rosters of two users agree");
        PresenceGrants x = States.friends();
        x.block(0, 1, true);
        agrees("a block leaves the marks", x, true);
        x.stop(0, 1);
        agrees("a stop that is not sent", x, false);
        x.refuse(1, 0);
        agrees("and a refuse that is not sent", x, true);
    }

    private static void agreeingOfAllPairs() {
        Check.sentence("Returns 0 to 15 (each pair once)");
        PresenceGrants x = new PresenceGrants();
        int due = 15;
        for (int user = 5; user > 0; user--) {
            for (int other = 0; other < user; other++) {
                Check.same("agreeing", x.agreeing(), due);
                x.ask(user, other);
                due--;
            }
        }
        Check.same("none", x.agreeing(), 0);
        x.deliver(1);
        Check.same("one", x.agreeing(), 1);
        x.deliver(1000);
        Check.same("all", x.agreeing(), 15);
    }

    /** User 0, who is there, sees users 1 and 2, of whom seats are on; its views are right. */
    private static PresenceGrants watching() {
        PresenceGrants x = new PresenceGrants();
        x.turnOn(0, 0, 0, 0);
        x.turnOn(1, 0, 0, 1);
        x.turnOn(1, 2, 0, 2);
        x.turnOn(2, 1, 0, 3);
        Check.letSee(x, 0, 1);
        Check.letSee(x, 0, 2);
        Check.same("right", x.wrongViews(0), 0);
        return x;
    }

    private static void wrongThoughTheSeatIsOff() {
        Check.sentence("that have a mood although the seat is off");
        PresenceGrants x = watching();
        x.turnOff(1, 2);
        Check.same("one off", x.wrongViews(0), 1);
        x.turnOff(1, 0);
        x.turnOff(2, 1);
        Check.same("three off", x.wrongViews(0), 3);
        x.deliver(1);
        Check.same("one is gone", x.wrongViews(0), 2);
        x.turnOn(1, 0, 0, 1);
        Check.same("one on with the same mood", x.wrongViews(0), 1);
    }

    private static void wrongMood() {
        Check.sentence("or has another mood");
        PresenceGrants x = watching();
        x.turnOn(1, 0, 9, 1);
        Check.same("another rank", x.wrongViews(0), 0);
        x.turnOn(1, 0, 9, 0);
        Check.same("another mood", x.wrongViews(0), 1);
        x.turnOn(2, 1, 0, 4);
        Check.same("two other moods", x.wrongViews(0), 2);
        x.turnOff(2, 1);
        Check.same("off with another mood is wrong once", x.wrongViews(0), 2);
        x.turnOn(2, 1, 0, 3);
        Check.same("the mood of before", x.wrongViews(0), 1);
    }

    private static void wrongNone() {
        Check.sentence("those that have none although sees is set, the user is there, and the seat is on");
        PresenceGrants x = watching();
        x.turnOn(2, 0, 0, 0);
        Check.same("one more is on", x.wrongViews(0), 1);
        x.turnOn(1, 1, 0, 0);
        x.turnOn(2, 2, 0, 0);
        Check.same("three more are on", x.wrongViews(0), 3);
        x.deliver(2);
        Check.same("two are here", x.wrongViews(0), 1);
    }

    private static void notWrongWithoutEachCondition() {
        Check.sentence("those that have none although sees is set, the user is there, and the seat is on");
        PresenceGrants away = watching();
        away.turnOff(0, 0);
        Check.same("not there", away.wrongViews(0), 0);
        away.turnOn(0, 2, 0, 0);
        Check.same("there again", away.wrongViews(0), 3);
        PresenceGrants blind = watching();
        blind.stop(0, 1);
        Check.same("without sees", blind.wrongViews(0), 0);
        blind.ask(0, 1);
        Check.same("with asked", blind.wrongViews(0), 0);
        PresenceGrants seen = States.marked(2);
        seen.turnOn(0, 0, 0, 0);
        seen.turnOn(1, 0, 0, 0);
        Check.same("with seen alone", seen.wrongViews(0), 0);
        Check.same("the one who sees", seen.wrongViews(1), 1);
        PresenceGrants off = watching();
        off.turnOff(1, 2);
        Check.settle(off);
        Check.same("seat off", off.wrongViews(0), 0);
    }

    private static void wrongViewsOfAllSeats() {
        Check.sentence("Returns the number of wrong views");
        PresenceGrants x = new PresenceGrants();
        for (int other = 1; other < 6; other++) {
            Check.letSee(x, 0, other);
            for (int seat = 0; seat < 3; seat++) {
                x.turnOn(other, seat, 0, 0);
            }
        }
        Check.settle(x);
        Check.same("not there", x.wrongViews(0), 0);
        x.turnOn(0, 0, 0, 0);
        Check.same("all 15", x.wrongViews(0), 15);
        Check.settle(x);
        Check.same("none", x.wrongViews(0), 0);
    }

    private static void viewsOfOthersAreNotItsOwn() {
        Check.sentence("those of a seat of another user");
        PresenceGrants x = watching();
        x.turnOff(1, 0);
        for (int user = 1; user < 6; user++) {
            Check.same("user " + user, x.wrongViews(user), 0);
        }
        x.turnOn(0, 1, 0, 3);
        Check.same("its own seats are not meant", x.wrongViews(0), 1);
    }

    private static void visibleFromNoneToAll() {
        Check.sentence("Returns the number of these pairs, converted to double, divided by 30.0");
        PresenceGrants x = new PresenceGrants();
        for (int user = 0; user < 6; user++) {
            x.turnOn(user, user % 3, 0, 0);
        }
        int pairs = 0;
        Check.same("none", x.visible(), 0.0);
        for (int i = 0; i < 36; i++) {
            if (i / 6 != i % 6) {
                Check.letSee(x, i / 6, i % 6);
                pairs++;
                Check.same("pairs " + pairs, x.visible(), (double) pairs / 30.0);
            }
        }
        Check.same("all", x.visible(), 1.0);
    }

    private static void visibleCountsAPairOnce() {
        Check.sentence("the ordered pairs of users of which the first one has a view of a seat of the second one");
        for (int seats = 0; seats < 8; seats++) {
            PresenceGrants x = States.marked(1);
            x.turnOn(0, 0, 0, 0);
            for (int seat = 0; seat < 3; seat++) {
                if ((seats >> seat & 1) != 0) {
                    x.turnOn(1, seat, 0, seat);
                }
            }
            Check.settle(x);
            Check.same("seats " + seats, x.visible(), seats == 0 ? 0.0 : 1 / 30.0);
        }
    }

    private static void visibleCountsWhatIsWrongToo() {
        Check.sentence("of which the first one has a view");
        PresenceGrants x = watching();
        x.turnOff(1, 0);
        x.turnOff(1, 2);
        Check.same("off, but not gone yet", x.visible(), 2 / 30.0);
        x.deliver(1);
        Check.same("one gone of two", x.visible(), 2 / 30.0);
        x.deliver(1);
        Check.same("both gone", x.visible(), 1 / 30.0);
    }

    private static void tellingChangesNothing() {
        Check.sentence("Nothing is promised beyond the answers and state changes described above");
        Twins.Call[] calls = {
            x -> x.entry(0, 1), x -> x.version(0, 1), x -> x.version(0, -1), x -> x.changedSince(0, 0),
            x -> x.view(0, 1, 0), x -> x.areApart(2, 4), x -> x.agree(0, 1), x -> x.agreeing(), x -> x.wrongViews(0),
            x -> x.visible(), x -> x.bestSeat(0), x -> x.seat(0, 0, 0), x -> x.underWay(), x -> x.message(0, 0),
            x -> x.count(0), x -> x.untilRest(), x -> x.agreeingAtRest(), x -> x.mostNeeded(), x -> x.digest(),
        };
        for (int i = 0; i < calls.length; i++) {
            Twins.unchanged("call " + i + " when busy", () -> States.busy(), calls[i]);
            Twins.unchanged("call " + i + " when full", () -> States.fullOfAll(), calls[i]);
        }
    }
}
