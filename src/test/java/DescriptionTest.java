/** The boundary cases that the document's 'Description' names, but for what arrives, script text and undo. */
public final class DescriptionTest {
    public static void main(String[] args) {
        theLastCallOfAll();
        firstAndLastUserAndSeat();
        seatsAreOffAtFirst();
        ranksAndMoods();
        thereWithOneSeat();
        entriesAreNotSetAtFirst();
        stateOfAnEntry();
        askedNeverWithSees();
        askingNeverWithSeen();
        versionsOfARoster();
        noChangeNoVersion();
        versionsOfAnEntry();
        viewsAreNoneAtFirst();
        apart();
        inTheOrderInWhichTheyWereSent();
        threeHundredAtATime();
        eachKindIsLostInAFullRoom();
        roomForOne();
        anArrivalLeavesRoom();
        notSentAtAll();
        notSentAtAllInAFullRoom();
        showsItself();
        hidesFrom();
        Check.end("DescriptionTest");
    }

    private static void theLastCallOfAll() {
        Check.sentence("An object is used for at most 512 calls after it has been made");
        PresenceGrants x = new PresenceGrants();
        for (int call = 1; call <= 511; call++) {
            Check.same("call " + call, call % 2 == 1 ? x.ask(0, 1) : x.stop(0, 1), 1);
        }
        Check.same("call 512, lost", x.count(2), 211);
        PresenceGrants y = new PresenceGrants();
        for (int call = 1; call <= 511; call++) {
            y.turnOn(5, call % 3, call % 10, call % 5);
        }
        Check.same("call 512, bestSeat", y.bestSeat(5), 509 % 3);
    }

    private static void firstAndLastUserAndSeat() {
        Check.sentence("There are 6 users, numbered from 0, each with the seats 0 to 2");
        for (int user = 0; user < 6; user++) {
            for (int seat = 0; seat < 3; seat++) {
                isTaken(user, 5 - user, seat);
            }
        }
    }

    private static void isTaken(int user, int other, int seat) {
        PresenceGrants x = new PresenceGrants();
        Check.same("turnOn", x.turnOn(user, seat, 1, 3), 1);
        Check.same("turnOn of the other", x.turnOn(other, 2 - seat, 0, 0), 1);
        Check.same("bestSeat", x.bestSeat(user), seat);
        Check.same("seat", x.seat(user, seat, 0), 1);
        Check.same("ask", x.ask(other, user), 1);
        Check.same("deliver", x.deliver(1), 1);
        Check.same("entry", x.entry(user, other), 8);
        Check.same("grant", x.grant(user, other), 1);
        Check.same("deliver", x.deliver(2), 2);
        Check.same("view", x.view(other, user, seat), 3);
        Check.same("agree", x.agree(user, other), true);
        Check.same("version", x.version(user, other), 2);
        Check.same("changedSince", x.changedSince(user, 1), 1);
        Check.same("block", x.block(user, other, true), 1);
        Check.same("areApart", x.areApart(other, user), true);
        Check.same("wrongViews", x.wrongViews(other), 0);
        Check.same("refuse", x.refuse(user, other), 1);
        Check.same("stop", x.stop(other, user), 1);
        Check.same("turnOff", x.turnOff(user, seat), 0);
    }

    private static void seatsAreOffAtFirst() {
        Check.sentence("A seat is on or off (initially off)");
        PresenceGrants x = new PresenceGrants();
        for (int i = 0; i < 18; i++) {
            int user = i / 3;
            int seat = i % 3;
            Check.same("seat", x.seat(user, seat, 0), 0);
            Check.throwsJust("turnOff", Check.STATE, () -> x.turnOff(user, seat));
        }
    }

    private static void ranksAndMoods() {
        Check.sentence("a seat that is on has a rank, -9 to 9, and a mood, 0 to 4");
        PresenceGrants x = new PresenceGrants();
        for (int rank = -9; rank <= 9; rank++) {
            for (int mood = 0; mood <= 4; mood++) {
                Check.same("turnOn", x.turnOn(2, 1, rank, mood), 1);
                Check.same("rank", x.seat(2, 1, 1), rank);
                Check.same("mood", x.seat(2, 1, 2), mood);
            }
        }
    }

    private static void thereWithOneSeat() {
        Check.sentence("A user is there if at least one of its seats is on");
        for (int seat = 0; seat < 3; seat++) {
            PresenceGrants x = States.marked(1);
            x.turnOn(1, 0, 0, 4);
            Check.settle(x);
            Check.same("without a seat", x.view(0, 1, 0), -1);
            x.turnOn(0, seat, -9, 0);
            Check.settle(x);
            Check.same("with one", x.view(0, 1, 0), 4);
            x.turnOn(0, (seat + 1) % 3, 0, 0);
            Check.same("no probe of one who is there", x.underWay(), 0);
            x.turnOff(0, seat);
            Check.same("with one of two", x.view(0, 1, 0), 4);
            x.turnOff(0, (seat + 1) % 3);
            Check.same("with none of two", x.view(0, 1, 0), -1);
            x.turnOn(1, 0, 0, 2);
            Check.settle(x);
            Check.same("a here for one who is not there", x.view(0, 1, 0), -1);
        }
    }

    private static void entriesAreNotSetAtFirst() {
        Check.sentence("four marks, all initially not set");
        PresenceGrants x = new PresenceGrants();
        States.eachPair((user, other) -> Check.same("entry", x.entry(user, other), 0));
    }

    private static void stateOfAnEntry() {
        Check.sentence("The state of an entry is the number 1 * sees + 2 * seen + 4 * asked + 8 * asking");
        for (int marks : States.MARKS) {
            PresenceGrants x = States.marked(marks);
            Check.same("entry", x.entry(0, 1), marks);
            Check.same("entry of the other", x.entry(1, 0), (marks & 5) << 1 | (marks & 10) >> 1);
            Check.same("agree", x.agree(0, 1), true);
        }
    }

    private static void askedNeverWithSees() {
        Check.sentence("Asked is never set together with sees");
        PresenceGrants x = States.marked(1);
        Check.same("ask with sees", x.ask(0, 1), 0);
        Check.same("entry", x.entry(0, 1), 1);
        PresenceGrants y = States.marked(4);
        y.grant(1, 0);
        Check.settle(y);
        Check.same("asked goes as sees comes", y.entry(0, 1), 1);
    }

    private static void askingNeverWithSeen() {
        Check.sentence("and asking never with seen");
        PresenceGrants x = States.marked(2);
        x.stop(1, 0);
        x.lose(0);
        x.ask(1, 0);
        x.deliver(1);
        Check.same("an ask that meets seen", x.entry(0, 1), 2);
        PresenceGrants y = States.marked(8);
        y.grant(0, 1);
        Check.same("asking goes as seen comes", y.entry(0, 1), 2);
    }

    private static void versionsOfARoster() {
        Check.sentence("A roster has a version, initially 0, which increases by 1 each time (also where two change)");
        PresenceGrants x = new PresenceGrants();
        versions(x, 0, 0);
        x.ask(0, 1);
        versions(x, 1, 0);
        x.deliver(1);
        versions(x, 1, 1);
        x.grant(1, 0);
        versions(x, 1, 2);
        x.deliver(1);
        versions(x, 2, 2);
        x.refuse(1, 0);
        versions(x, 2, 3);
        x.deliver(1);
        versions(x, 3, 3);
        x.ask(0, 1);
        x.deliver(1);
        versions(x, 4, 4);
        x.stop(0, 1);
        versions(x, 5, 4);
        x.deliver(1);
        versions(x, 5, 5);
        Check.same("others have not changed", x.version(2, -1), 0);
    }

    private static void versions(PresenceGrants x, int first, int second) {
        Check.same("version of user 0", x.version(0, -1), first);
        Check.same("version of user 1", x.version(1, -1), second);
        Check.same("version of its entry", x.version(0, 1), first);
        Check.same("version of its entry", x.version(1, 0), second);
    }

    private static void noChangeNoVersion() {
        Check.sentence("increases by 1 each time when the state of one of its entries changes");
        PresenceGrants x = States.friends();
        x.ask(2, 0);
        Check.settle(x);
        int version = x.version(0, -1);
        Check.same("ask with sees", x.ask(0, 1), 0);
        Check.same("grant without asking", x.grant(0, 1), 0);
        Check.same("refuse without marks", x.refuse(0, 3), 0);
        Check.same("stop without marks", x.stop(0, 2), 0);
        x.turnOff(0, 0);
        x.turnOff(0, 2);
        x.turnOn(0, 1, 0, 0);
        x.turnOn(1, 2, 0, 0);
        x.turnOff(1, 2);
        Check.settle(x);
        x.block(0, 1, true);
        x.block(0, 1, false);
        Check.settle(x);
        x.stop(2, 0);
        x.lose(0);
        x.ask(2, 0);
        Check.settle(x);
        Check.same("asking that is set again", x.entry(0, 2), 8);
        Check.same("version", x.version(0, -1), version);
    }

    private static void versionsOfAnEntry() {
        Check.sentence("an entry has the version of its latest change, initially 0");
        PresenceGrants x = new PresenceGrants();
        for (int other = 1; other < 6; other++) {
            Check.same("initially", x.version(0, other), 0);
            x.ask(0, other);
            Check.same("of its change", x.version(0, other), other);
        }
        x.stop(0, 3);
        Check.same("of its latest change", x.version(0, 3), 6);
        Check.same("of a change before", x.version(0, 5), 5);
    }

    private static void viewsAreNoneAtFirst() {
        Check.sentence("a user a has a view: a mood, or none (initially none)");
        PresenceGrants x = new PresenceGrants();
        States.eachPair((user, other) -> Check.views("at first", x, user, other, -1, -1, -1));
    }

    private static void apart() {
        Check.sentence("Two users are apart if one of them blocks the other one");
        PresenceGrants x = new PresenceGrants();
        for (int blocks : new int[] {0, 1, 3, 2, 0}) {
            x.block(0, 5, (blocks & 1) != 0);
            x.block(5, 0, (blocks & 2) != 0);
            Check.same("with blocks " + blocks, x.areApart(0, 5), blocks != 0);
            Check.same("with blocks " + blocks, x.areApart(5, 0), blocks != 0);
            Check.same("another pair", x.areApart(0, 4), false);
            Check.same("another pair", x.areApart(1, 5), false);
        }
    }

    private static void inTheOrderInWhichTheyWereSent() {
        Check.sentence("They are under way in the order in which they were sent");
        PresenceGrants x = new PresenceGrants();
        x.ask(3, 0);
        x.ask(0, 3);
        x.stop(3, 0);
        x.ask(2, 1);
        Check.post("sent", x, "ask 3>0, ask 0>3, stop 3>0, ask 2>1");
        x.deliver(2);
        x.ask(1, 2);
        Check.post("later", x, "stop 3>0, ask 2>1, ask 1>2");
    }

    private static void threeHundredAtATime() {
        Check.sentence("at most 300 at a time; a message that is sent while there are 300 is lost");
        PresenceGrants x = new PresenceGrants();
        for (int sent = 1; sent <= 302; sent++) {
            Check.same("sent", sent % 2 == 1 ? x.ask(0, 1) : x.stop(0, 1), 1);
            if (sent >= 298) {
                Check.same("under way after " + sent, x.underWay(), Math.min(sent, 300));
                Check.same("lost after " + sent, x.count(2), Math.max(sent - 300, 0));
                Check.same("sent after " + sent, x.count(0), sent);
            }
        }
        Check.same("the last one that had room", x.message(299, 0), 2);
        Check.same("the first one", x.message(0, 0), 0);
    }

    private static void eachKindIsLostInAFullRoom() {
        Check.sentence("a message that is sent while there are 300 is lost");
        isLost("ask", 1, x -> x.ask(0, 1), 0, 1, 4);
        isLost("grant", 1, x -> x.grant(2, 1), 2, 1, 2);
        isLost("stop", 1, x -> x.stop(0, 5), 0, 5, 0);
        isLost("refuse and three gone", 4, x -> x.refuse(5, 0), 5, 0, 0);
        isLost("here for five", 5, x -> x.turnOn(5, 1, 1, 1), 5, 0, 2);
        isLost("gone for five", 5, x -> x.turnOff(5, 1), 5, 0, 2);
        isLost("probe", 1, x -> x.turnOn(0, 0, 0, 0), 0, 5, 1);
        isLost("gone for one who is blocked", 3, x -> x.block(5, 0, true), 5, 0, 2);
    }

    /** User 2 has been asked by user 1, beside what a crowd is. */
    private static void isLost(String what, int lost, Twins.Call call, int user, int other, int entry) {
        PresenceGrants x = States.crowd();
        x.ask(1, 2);
        Check.settle(x);
        States.fill(x, 300);
        int sent = x.count(0);
        call.on(x);
        Check.same(what + ": lost", x.count(2), lost);
        Check.same(what + ": sent", x.count(0), sent + lost);
        Check.same(what + ": under way", x.underWay(), 300);
        Check.same(what + ": marks change all the same", x.entry(user, other), entry);
        Check.same(what + ": the newest is another one", x.message(299, 2), 4);
    }

    private static void roomForOne() {
        Check.sentence("at most 300 at a time");
        PresenceGrants x = States.full();
        x.lose(150);
        Check.same("one less", x.underWay(), 299);
        x.ask(0, 1);
        x.ask(1, 0);
        Check.same("room after a loss, for one", x.underWay(), 300);
        Check.message("the newest", x, 299, 0, 0, 1, -1, -1);
        Check.same("lost by lose() and for lack of room", x.count(2), 2);
        x.deliver(2);
        x.turnOn(5, 2, 0, 4);
        Check.same("room after two arrivals", x.underWay(), 300);
        Check.message("the newest but one", x, 298, 4, 5, 0, 2, 4);
        Check.message("the newest", x, 299, 4, 5, 1, 2, 4);
        Check.same("three of five more are lost", x.count(2), 5);
    }

    private static void anArrivalLeavesRoom() {
        Check.sentence("They are under way in the order in which they were sent, at most 300 at a time");
        oneAnswerHasRoom("probe", States.crowd(), x -> x.turnOn(0, 0, 0, 0), "here 5>0 0:0", 2);
        oneAnswerHasRoom("stop", States.crowd(), x -> x.stop(0, 5), "gone 5>0 0", 2);
        PresenceGrants stopped = States.crowd();
        stopped.stop(0, 5);
        stopped.lose(0);
        oneAnswerHasRoom("ask", stopped, x -> x.ask(0, 5), "grant 5>0", 3);
        PresenceGrants refused = States.crowd();
        refused.refuse(5, 0);
        refused.refuse(5, 4);
        States.loseAll(refused);
        oneAnswerHasRoom("probe of one not seen", refused, x -> x.turnOn(0, 0, 0, 0), "refuse 5>0", 0);
    }

    /** The call sends one message, then the room is filled by the asks and stops of user 1. */
    private static void oneAnswerHasRoom(String what, PresenceGrants x, Twins.Call call, String answer, int lost) {
        call.on(x);
        Check.same(what + ": one message", x.underWay(), 1);
        for (int size = 1; size < 300; size++) {
            if (size % 2 == 1) {
                x.ask(1, 2);
            } else {
                x.stop(1, 2);
            }
        }
        int lostBefore = x.count(2);
        x.deliver(1);
        Check.same(what + ": full again", x.underWay(), 300);
        Check.same(what + ": lost", x.count(2), lostBefore + lost);
        // Asks and stops between users without seats bring no answers, so the newest alone is left.
        x.deliver(299);
        Check.post(what + ": the answer", x, answer);
    }

    private static void notSentAtAll() {
        Check.sentence("sent between users who are apart is not sent at all (not lost; marks change all the same)");
        for (int blocker = 0; blocker < 2; blocker++) {
            PresenceGrants x = new PresenceGrants();
            x.turnOn(1, 0, 0, 0);
            x.ask(0, 1);
            Check.settle(x);
            x.block(blocker, 1 - blocker, true);
            Check.same("grant", x.grant(1, 0), 1);
            Check.same("seen", x.entry(1, 0), 2);
            Check.same("turnOn", x.turnOn(1, 1, 0, 0), 2);
            Check.same("turnOff", x.turnOff(1, 1), 1);
            Check.same("ask", x.ask(1, 0), 1);
            Check.same("seen and asked", x.entry(1, 0), 6);
            Check.same("refuse", x.refuse(1, 0), 1);
            Check.same("stop", x.stop(1, 0), 1);
            Check.same("none", x.entry(1, 0), 0);
            Check.same("version", x.version(1, -1), 5);
            Check.same("under way", x.underWay(), 0);
            Check.same("sent is the first ask alone", x.count(0), 1);
            Check.same("lost", x.count(2), 0);
        }
        PresenceGrants sees = States.marked(1);
        sees.block(1, 0, true);
        sees.turnOn(0, 0, 0, 0);
        Check.same("no probe", sees.underWay(), 0);
    }

    private static void notSentAtAllInAFullRoom() {
        Check.sentence("it does not count as lost");
        PresenceGrants x = States.crowd();
        x.block(0, 5, true);
        // Four of the crowd still get each here.
        for (int i = 0; i < 75; i++) {
            x.turnOn(5, 0, 0, 0);
        }
        Check.same("full", x.underWay(), 300);
        int sent = x.count(0);
        Check.same("stop", x.stop(0, 5), 1);
        Check.same("refuse", x.refuse(5, 0), 1);
        Check.same("ask", x.ask(0, 5), 1);
        Check.same("marks", x.entry(0, 5), 4);
        Check.same("sent", x.count(0), sent);
        Check.same("lost", x.count(2), 0);
    }

    /** A user who grants shows itself: the grant is sent first. */
    private static void showsItself() {
        Check.sentence("for each seat of the sender that is on, in ascending order, a here with its mood is sent to b");
        String[] due = {
            "", ", here 1>0 0:4", ", here 1>0 1:3", ", here 1>0 0:4, here 1>0 1:3", ", here 1>0 2:2",
            ", here 1>0 0:4, here 1>0 2:2", ", here 1>0 1:3, here 1>0 2:2", ", here 1>0 0:4, here 1>0 1:3, here 1>0 2:2",
        };
        for (int seats = 0; seats < 8; seats++) {
            PresenceGrants x = seated(seats);
            x.ask(0, 1);
            x.deliver(1);
            x.grant(1, 0);
            Check.post("seats " + seats, x, "grant 1>0" + due[seats]);
        }
    }

    private static void hidesFrom() {
        Check.sentence("for each of its seats that is on, in ascending order, a gone is sent to b");
        String[] due = {
            "", ", gone 1>0 0", ", gone 1>0 1", ", gone 1>0 0, gone 1>0 1", ", gone 1>0 2",
            ", gone 1>0 0, gone 1>0 2", ", gone 1>0 1, gone 1>0 2", ", gone 1>0 0, gone 1>0 1, gone 1>0 2",
        };
        for (int seats = 0; seats < 8; seats++) {
            PresenceGrants x = seated(seats);
            Check.letSee(x, 0, 1);
            x.refuse(1, 0);
            Check.post("seats " + seats, x, "refuse 1>0" + due[seats]);
        }
    }

    /** User 1 with these seats on (a bit each), turned on from the last to the first; the others were on once. */
    private static PresenceGrants seated(int seats) {
        PresenceGrants x = new PresenceGrants();
        for (int seat = 2; seat >= 0; seat--) {
            x.turnOn(1, seat, 0, 4 - seat);
            if ((seats >> seat & 1) == 0) {
                x.turnOff(1, seat);
            }
        }
        return x;
    }
}
