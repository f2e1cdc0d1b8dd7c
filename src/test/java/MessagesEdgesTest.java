/** The boundary cases of promises 11 to 15: deliver, lose, underWay, message, count. */
public final class MessagesEdgesTest {
    public static void main(String[] args) {
        deliverNone();
        deliverUntilSoManyHaveArrived();
        deliverUntilNoneIsUnderWay();
        deliverMoreThanEver();
        deliverOneAfterTheOther();
        deliverWhatIsSentMeanwhile();
        deliverWhileApart();
        deliverFromAFullRoom();
        loseEachIndex();
        loseReturnsTheKind();
        loseChangesNothingElse();
        underWayFromNoneToAll();
        messageOfEachKind();
        messageOfMoodAndSeatNought();
        messageOfTheOldestAndTheNewest();
        messageAfterRoundsOfTheRoom();
        countsOfAllSorts();
        undoable();
        Check.end("MessagesEdgesTest");
    }

    private static void deliverNone() {
        Check.sentence("count: 0 to 1000");
        PresenceGrants x = new PresenceGrants();
        Check.same("0 of none", x.deliver(0), 0);
        x.ask(0, 1);
        Check.same("0 of one", x.deliver(0), 0);
        Check.same("under way", x.underWay(), 1);
        Check.same("arrived", x.count(1), 0);
        Check.same("both saved a state, though nothing changed", Check.undoAll(x), 3);
    }

    private static void deliverUntilSoManyHaveArrived() {
        Check.sentence("until so many have arrived");
        PresenceGrants x = new PresenceGrants();
        for (int other = 1; other < 6; other++) {
            x.ask(0, other);
        }
        Check.same("one", x.deliver(1), 1);
        Check.same("three more", x.deliver(3), 3);
        Check.same("under way", x.underWay(), 1);
        Check.same("arrived", x.count(1), 4);
        Check.same("the last one", x.deliver(1), 1);
        Check.same("under way", x.underWay(), 0);
    }

    private static void deliverUntilNoneIsUnderWay() {
        Check.sentence("or none is under way");
        PresenceGrants x = new PresenceGrants();
        Check.same("1 of none", x.deliver(1), 0);
        Check.same("1000 of none", x.deliver(1000), 0);
        x.ask(0, 1);
        x.ask(2, 1);
        Check.same("3 of two", x.deliver(3), 2);
        x.ask(0, 2);
        x.ask(2, 0);
        Check.same("2 of two", x.deliver(2), 2);
        Check.same("arrived", x.count(1), 4);
    }

    private static void deliverMoreThanEver() {
        Check.sentence("count: 0 to 1000");
        PresenceGrants x = States.full();
        Check.same("999 of 300", x.deliver(999), 300);
        x.undo();
        Check.same("1000 of 300", x.deliver(1000), 300);
    }

    private static void deliverOneAfterTheOther() {
        Check.sentence("one after the other, the oldest first");
        PresenceGrants x = States.marked(4);
        x.grant(1, 0);
        x.refuse(1, 0);
        x.deliver(1);
        Check.same("the grant first", x.entry(0, 1), 1);
        x.deliver(1);
        Check.same("then the refuse", x.entry(0, 1), 0);
        Check.same("three changes", x.version(0, 1), 3);
    }

    private static void deliverWhatIsSentMeanwhile() {
        Check.sentence("also those that are sent meanwhile");
        PresenceGrants x = States.crowd();
        x.turnOn(0, 0, 0, 0);
        x.turnOn(1, 0, 0, 0);
        Check.same("two probes", x.underWay(), 2);
        Check.same("and one of their six answers", x.deliver(3), 3);
        Check.views("one answer", x, 0, 5, 0, -1, -1);
        Check.post("five answers", x, "here 5>0 1:1, here 5>0 2:2, here 5>1 0:0, here 5>1 1:1, here 5>1 2:2");
        Check.same("and the others", x.deliver(6), 5);
    }

    private static void deliverWhileApart() {
        Check.sentence("(but it has arrived, and counts so)");
        PresenceGrants x = new PresenceGrants();
        x.ask(0, 1);
        x.ask(2, 1);
        x.block(1, 0, true);
        Check.same("one that does nothing", x.deliver(1), 1);
        Check.same("arrived", x.count(1), 1);
        Check.post("the other one", x, "ask 2>1");
    }

    private static void deliverFromAFullRoom() {
        Check.sentence("Lets messages arrive until none is under way");
        PresenceGrants x = States.crowd();
        for (int user = 0; user < 5; user++) {
            x.turnOn(user, 0, 0, 0);
        }
        States.fill(x, 300);
        Check.same("five answers of fifteen have room", x.deliver(1000), 305);
        Check.same("ten are lost", x.count(2), 10);
    }

    private static void loseEachIndex() {
        Check.sentence("index of the message, 0 for the oldest one");
        String[] due = {
            "ask 0>2, ask 0>3, ask 0>4", "ask 0>1, ask 0>3, ask 0>4", "ask 0>1, ask 0>2, ask 0>4",
            "ask 0>1, ask 0>2, ask 0>3",
        };
        for (int index = 0; index < 4; index++) {
            PresenceGrants x = new PresenceGrants();
            for (int other = 1; other < 5; other++) {
                x.ask(0, other);
            }
            Check.same("lose", x.lose(index), 0);
            Check.post("without index " + index, x, due[index]);
            Check.same("deliver", x.deliver(9), 3);
            for (int other = 1; other < 5; other++) {
                Check.same("asking", x.entry(other, 0), other == index + 1 ? 0 : 8);
            }
        }
        PresenceGrants y = States.full();
        Check.same("the newest of 300", y.lose(299), 4);
        Check.same("the newest of 299", y.lose(298), 4);
        Check.same("under way", y.underWay(), 298);
        PresenceGrants z = new PresenceGrants();
        z.ask(3, 4);
        Check.same("the only one", z.lose(0), 0);
        Check.same("none under way", z.underWay(), 0);
    }

    private static void loseReturnsTheKind() {
        Check.sentence("Returns the kind of the message");
        PresenceGrants x = States.marked(1);
        x.ask(1, 0);
        Check.same("ask", x.lose(0), 0);
        x.stop(1, 0);
        Check.same("stop", x.lose(0), 2);
        x.turnOn(1, 2, 0, 4);
        Check.same("here", x.lose(0), 4);
        x.turnOff(1, 2);
        Check.same("gone", x.lose(0), 5);
        x.turnOn(0, 2, 0, 4);
        Check.same("probe", x.lose(0), 6);
        x.refuse(1, 0);
        Check.same("refuse", x.lose(0), 3);
        x.ask(2, 1);
        x.deliver(1);
        x.grant(1, 2);
        Check.same("grant", x.lose(0), 1);
        Check.same("lost", x.count(2), 7);
    }

    private static void loseChangesNothingElse() {
        Check.sentence("Loses a message that is under way");
        PresenceGrants x = States.friends();
        x.turnOn(0, 2, 0, 4);
        int sent = x.count(0);
        int arrived = x.count(1);
        Check.same("lose", x.lose(0), 4);
        Check.same("under way", x.underWay(), 0);
        Check.same("sent", x.count(0), sent);
        Check.same("arrived", x.count(1), arrived);
        Check.same("lost", x.count(2), 1);
        Check.views("not seen", x, 1, 0, 1, -1, 2);
        Check.same("the seat has its mood", x.seat(0, 2, 2), 4);
    }

    private static void underWayFromNoneToAll() {
        Check.sentence("Returns 0 to 300");
        PresenceGrants x = new PresenceGrants();
        for (int sent = 0; sent < 300; sent++) {
            if (sent < 3 || sent > 297) {
                Check.same("under way", x.underWay(), sent);
            }
            if (sent % 2 == 0) {
                x.ask(4, 2);
            } else {
                x.stop(4, 2);
            }
        }
        Check.same("full", x.underWay(), 300);
        x.ask(4, 2);
        Check.same("still full", x.underWay(), 300);
    }

    private static void messageOfEachKind() {
        Check.sentence("3 its seat (kinds 4 and 5), 4 its mood (kind 4); NONE for other kinds");
        PresenceGrants x = States.marked(1);
        x.turnOn(1, 2, 0, 4);
        x.turnOff(1, 2);
        x.turnOn(0, 1, 0, 3);
        x.refuse(1, 0);
        x.ask(1, 0);
        x.stop(1, 0);
        Check.message("here", x, 0, 4, 1, 0, 2, 4);
        Check.message("gone", x, 1, 5, 1, 0, 2, -1);
        Check.message("probe", x, 2, 6, 0, 1, -1, -1);
        Check.message("refuse", x, 3, 3, 1, 0, -1, -1);
        Check.message("ask", x, 4, 0, 1, 0, -1, -1);
        Check.message("stop", x, 5, 2, 1, 0, -1, -1);
        PresenceGrants y = States.marked(8);
        y.grant(0, 1);
        Check.message("grant", y, 0, 1, 0, 1, -1, -1);
    }

    private static void messageOfMoodAndSeatNought() {
        Check.sentence("3 its seat (kinds 4 and 5), 4 its mood (kind 4)");
        PresenceGrants x = States.crowd();
        for (int seat = 0; seat < 3; seat++) {
            for (int mood = 0; mood < 5; mood++) {
                x.turnOn(5, seat, 0, mood);
                Check.message("here", x, 0, 4, 5, 0, seat, mood);
                Check.message("here", x, 4, 4, 5, 4, seat, mood);
                x.deliver(5);
            }
        }
        x.turnOff(5, 0);
        Check.message("gone", x, 0, 5, 5, 0, 0, -1);
    }

    private static void messageOfTheOldestAndTheNewest() {
        Check.sentence("index of the message, 0 for the oldest one");
        PresenceGrants x = States.full();
        Check.message("the oldest", x, 0, 4, 5, 0, 0, 0);
        Check.message("the newest", x, 299, 4, 5, 4, 0, 0);
        x.lose(0);
        x.lose(298);
        Check.message("the oldest", x, 0, 4, 5, 1, 0, 0);
        Check.message("the newest", x, 297, 4, 5, 3, 0, 0);
    }

    /** More than 600 messages are sent, with some 250 under way all the time. */
    private static void messageAfterRoundsOfTheRoom() {
        Check.sentence("They are under way in the order in which they were sent");
        PresenceGrants x = States.crowd();
        States.fill(x, 250);
        for (int round = 0; round < 80; round++) {
            x.turnOn(5, round % 3, 0, round % 5);
            Check.same("the newest's seat", x.message(254, 3), round % 3);
            Check.same("the newest's mood", x.message(254, 4), round % 5);
            Check.same("deliver", x.deliver(5), 5);
        }
        for (int i = 0; i < 50; i++) {
            Check.same("mood in order", x.message(i * 5, 4), (30 + i) % 5);
        }
    }

    private static void countsOfAllSorts() {
        Check.sentence("0 messages sent (those that were lost included), 1 that have arrived, 2 lost (in both ways)");
        PresenceGrants x = States.full();
        int sent = x.count(0);
        int arrived = x.count(1);
        counts(x, sent, arrived, 0);
        x.ask(0, 1);
        counts(x, sent + 1, arrived, 1);
        x.lose(7);
        counts(x, sent + 1, arrived, 2);
        x.ask(1, 0);
        counts(x, sent + 2, arrived, 2);
        x.deliver(20);
        counts(x, sent + 2, arrived + 20, 2);
        x.block(0, 1, true);
        x.ask(1, 0);
        x.deliver(1000);
        counts(x, sent + 2, arrived + 300, 2);
        Check.same("sent is arrived and lost, at rest", x.count(0), x.count(1) + x.count(2));
    }

    private static void counts(PresenceGrants x, int sent, int arrived, int lost) {
        Check.same("sent", x.count(0), sent);
        Check.same("arrived", x.count(1), arrived);
        Check.same("lost", x.count(2), lost);
    }

    private static void undoable() {
        Check.sentence("Undoable");
        PresenceGrants x = States.full();
        x.deliver(0);
        x.undo();
        long before = x.digest();
        Twins.Call[] calls = {
            o -> o.deliver(0), o -> o.deliver(1), o -> o.deliver(1000), o -> o.lose(0), o -> o.lose(299),
        };
        for (Twins.Call call : calls) {
            call.on(x);
            Check.same("undo", x.undo(), 3);
            Check.same("digest", x.digest(), before);
        }
    }
}
