/** The boundary cases of promises 7 to 10: turnOn, turnOff, bestSeat, seat. */
public final class SeatsEdgesTest {
    public static void main(String[] args) {
        turnOnOfEachSeat();
        turnOnAgain();
        notThereBefore();
        viewsOfOneWhoWasNotThere();
        probesForWhomSeesIsSet();
        hereForWhomSeenIsSet();
        hereThoughNothingIsDifferent();
        turnOnInAFullRoom();
        turnOffSendsGone();
        notThereAnyMore();
        turnOffInAFullRoom();
        ranksOfTheBestSeat();
        severalBestSeats();
        noBestSeat();
        seatsThatAreOffAreNotBest();
        seatThatWasNeverOn();
        seatOfTheLatestTime();
        undoable();
        Check.end("SeatsEdgesTest");
    }

    private static void turnOnOfEachSeat() {
        Check.sentence("Returns the number of seats of the user that are on");
        int[][] orders = {{0, 1, 2}, {0, 2, 1}, {1, 0, 2}, {1, 2, 0}, {2, 0, 1}, {2, 1, 0}};
        PresenceGrants x = new PresenceGrants();
        for (int user = 0; user < 6; user++) {
            for (int i = 0; i < 3; i++) {
                Check.same("turnOn", x.turnOn(user, orders[user][i], 0, 0), i + 1);
            }
            for (int i = 0; i < 3; i++) {
                Check.same("turnOff", x.turnOff(user, orders[5 - user][i]), 2 - i);
            }
        }
    }

    private static void turnOnAgain() {
        Check.sentence("or gives one that is on another rank and mood");
        PresenceGrants x = new PresenceGrants();
        Check.same("turnOn", x.turnOn(1, 2, -9, 0), 1);
        Check.same("turnOn again", x.turnOn(1, 2, 9, 4), 1);
        Check.same("on", x.seat(1, 2, 0), 1);
        Check.same("rank", x.seat(1, 2, 1), 9);
        Check.same("mood", x.seat(1, 2, 2), 4);
        x.turnOn(1, 2, 9, 0);
        Check.same("another mood alone", x.seat(1, 2, 2), 0);
        x.turnOn(1, 2, -9, 0);
        Check.same("another rank alone", x.seat(1, 2, 1), -9);
    }

    /** Users 0 and 3 are seen by user 2, and user 2 by 0 and 4; users 0 and 3 are there. */
    private static PresenceGrants between() {
        PresenceGrants x = new PresenceGrants();
        x.turnOn(0, 1, 0, 3);
        x.turnOn(3, 0, 0, 2);
        Check.letSee(x, 2, 3);
        Check.letSee(x, 2, 0);
        Check.letSee(x, 4, 2);
        Check.letSee(x, 0, 2);
        return x;
    }

    private static void notThereBefore() {
        Check.sentence("If the user was not there before, a probe is sent to each other user for whom sees is set");
        PresenceGrants x = between();
        x.turnOn(2, 2, 0, 1);
        Check.post("not there before", x, "probe 2>0, probe 2>3, here 2>0 2:1, here 2>4 2:1");
        Check.settle(x);
        x.turnOn(2, 2, 0, 0);
        Check.post("there with the same seat", x, "here 2>0 2:0, here 2>4 2:0");
        Check.settle(x);
        x.turnOn(2, 0, 0, 4);
        Check.post("there with another seat", x, "here 2>0 0:4, here 2>4 0:4");
        Check.settle(x);
        x.turnOff(2, 2);
        x.turnOff(2, 0);
        Check.settle(x);
        x.turnOn(2, 0, 0, 0);
        Check.post("not there any more", x, "probe 2>0, probe 2>3, here 2>0 0:0, here 2>4 0:0");
    }

    /** A user who is not there can have no view: here is not taken, and the last turnOff makes all views none. */
    private static void viewsOfOneWhoWasNotThere() {
        Check.sentence("If the user was not there before, all its views become none");
        PresenceGrants x = between();
        x.turnOn(2, 2, 0, 1);
        Check.settle(x);
        Check.views("probed", x, 2, 0, -1, 3, -1);
        Check.views("probed", x, 2, 3, 2, -1, -1);
        x.turnOn(2, 0, 0, 1);
        Check.views("a second seat leaves them", x, 2, 0, -1, 3, -1);
        x.turnOff(2, 0);
        x.turnOff(2, 2);
        x.turnOn(2, 2, 0, 1);
        Check.views("until the probes are answered", x, 2, 0, -1, -1, -1);
        Check.views("until the probes are answered", x, 2, 3, -1, -1, -1);
    }

    private static void probesForWhomSeesIsSet() {
        Check.sentence("for whom sees is set");
        for (int mark : States.MARKS) {
            PresenceGrants x = States.marked(mark);
            x.turnOn(0, 0, 0, 0);
            String probe = (mark & 1) != 0 ? "probe 0>1" : "";
            String here = (mark & 2) != 0 ? "here 0>1 0:0" : "";
            Check.post("marks " + mark, x, probe + (mark % 4 == 3 ? ", " : "") + here);
        }
    }

    private static void hereForWhomSeenIsSet() {
        Check.sentence("a here of this seat is then sent to each other user, in ascending order, for whom seen is set");
        PresenceGrants x = States.crowd();
        x.refuse(5, 2);
        Check.settle(x);
        x.turnOn(5, 1, 4, 3);
        Check.post("this seat alone", x, "here 5>0 1:3, here 5>1 1:3, here 5>3 1:3, here 5>4 1:3");
    }

    private static void hereThoughNothingIsDifferent() {
        Check.sentence("In any case, also if nothing is different");
        PresenceGrants x = States.friends();
        x.turnOn(0, 2, 0, 2);
        Check.post("the same rank and mood", x, "here 0>1 2:2");
        x.turnOn(0, 2, 1, 2);
        Check.post("another rank", x, "here 0>1 2:2, here 0>1 2:2");
    }

    private static void turnOnInAFullRoom() {
        Check.sentence("A seat is on or off");
        PresenceGrants x = States.full();
        Check.same("turnOn", x.turnOn(0, 1, 7, 2), 1);
        Check.same("on", x.seat(0, 1, 0), 1);
        Check.same("the probe is lost", x.count(2), 1);
        Check.same("turnOn of one who is seen", x.turnOn(5, 1, 7, 4), 3);
        Check.same("mood", x.seat(5, 1, 2), 4);
        Check.same("five here are lost", x.count(2), 6);
    }

    private static void turnOffSendsGone() {
        Check.sentence("A gone of this seat is sent to each other user, in ascending order, for whom seen is set");
        PresenceGrants x = between();
        x.turnOn(2, 0, 0, 1);
        x.turnOn(2, 2, 0, 1);
        Check.settle(x);
        x.turnOff(2, 2);
        Check.post("one of two", x, "gone 2>0 2, gone 2>4 2");
        Check.settle(x);
        x.turnOff(2, 0);
        Check.post("the last one", x, "gone 2>0 0, gone 2>4 0");
        for (int mark : States.MARKS) {
            PresenceGrants y = States.marked(mark);
            y.turnOn(0, 1, 0, 0);
            Check.settle(y);
            y.turnOff(0, 1);
            Check.post("marks " + mark, y, (mark & 2) != 0 ? "gone 0>1 1" : "");
        }
    }

    private static void notThereAnyMore() {
        Check.sentence("if the user is not there any more, all its views become none");
        PresenceGrants x = between();
        x.turnOn(2, 0, 0, 1);
        x.turnOn(2, 1, 0, 1);
        Check.settle(x);
        Check.same("one of two", x.turnOff(2, 0), 1);
        Check.views("still there", x, 2, 0, -1, 3, -1);
        Check.views("still there", x, 2, 3, 2, -1, -1);
        Check.views("the views of others stay until the gone arrives", x, 0, 2, 1, 1, -1);
        Check.same("the last one", x.turnOff(2, 1), 0);
        Check.views("not there", x, 2, 0, -1, -1, -1);
        Check.views("not there", x, 2, 3, -1, -1, -1);
        Check.views("the views of others stay until the gone arrives", x, 0, 2, 1, 1, -1);
        Check.same("sees stays", x.entry(2, 3), 1);
        Check.settle(x);
        Check.views("gone", x, 0, 2, -1, -1, -1);
    }

    private static void turnOffInAFullRoom() {
        Check.sentence("Turns a seat off");
        PresenceGrants x = States.full();
        Check.same("turnOff", x.turnOff(5, 2), 2);
        Check.same("off", x.seat(5, 2, 0), 0);
        Check.same("five gone are lost", x.count(2), 5);
    }

    private static void ranksOfTheBestSeat() {
        Check.sentence("of its seats that are on and have a rank of 0 or more, the one with the highest rank");
        PresenceGrants x = new PresenceGrants();
        for (int rank = -9; rank <= 9; rank++) {
            x.turnOn(0, 1, rank, 0);
            Check.same("rank " + rank + " alone", x.bestSeat(0), rank >= 0 ? 1 : -1);
        }
        int[][] ranks = {{0, -1, -1}, {-1, 0, -1}, {-1, -1, 0}, {8, 9, 0}, {0, 8, 9}, {9, 8, 0}, {-9, 0, 1}, {1, -9, 0}};
        int[] due = {0, 1, 2, 1, 2, 0, 2, 0};
        for (int i = 0; i < due.length; i++) {
            Check.same("ranks " + i, bestOf(ranks[i]), due[i]);
        }
    }

    private static int bestOf(int[] ranks) {
        PresenceGrants x = new PresenceGrants();
        for (int seat = 0; seat < 3; seat++) {
            x.turnOn(3, seat, ranks[seat], 0);
        }
        return x.bestSeat(3);
    }

    private static void severalBestSeats() {
        Check.sentence("of several the lowest seat");
        int[][] ranks = {{0, 0, 0}, {9, 9, 9}, {0, 5, 5}, {5, 0, 5}, {5, 5, 0}, {-1, 0, 0}, {0, -1, 0}};
        int[] due = {0, 0, 1, 0, 0, 1, 0};
        for (int i = 0; i < due.length; i++) {
            Check.same("ranks " + i, bestOf(ranks[i]), due[i]);
        }
    }

    private static void noBestSeat() {
        Check.sentence("Returns the seat; NONE if there is none");
        PresenceGrants x = new PresenceGrants();
        Check.same("none is on", x.bestSeat(0), PresenceGrants.NONE);
        Check.same("all below 0", bestOf(new int[] {-1, -1, -9}), PresenceGrants.NONE);
    }

    private static void seatsThatAreOffAreNotBest() {
        Check.sentence("of its seats that are on");
        PresenceGrants x = new PresenceGrants();
        x.turnOn(4, 0, 9, 0);
        x.turnOn(4, 1, 3, 0);
        x.turnOn(5, 2, 9, 0);
        x.turnOff(4, 0);
        Check.same("the highest is off", x.bestSeat(4), 1);
        x.turnOff(4, 1);
        Check.same("all are off", x.bestSeat(4), -1);
        Check.same("another user's is on", x.bestSeat(5), 2);
        Check.same("a user before", x.bestSeat(3), -1);
    }

    private static void seatThatWasNeverOn() {
        Check.sentence("0 if it was never on");
        PresenceGrants x = new PresenceGrants();
        x.turnOn(2, 1, 5, 3);
        for (int i = 0; i < 18; i++) {
            if (i != 7) {
                Check.same("on", x.seat(i / 3, i % 3, 0), 0);
                Check.same("rank", x.seat(i / 3, i % 3, 1), 0);
                Check.same("mood", x.seat(i / 3, i % 3, 2), 0);
            }
        }
    }

    private static void seatOfTheLatestTime() {
        Check.sentence("1 its rank, 2 its mood (both of the latest time when it was on)");
        PresenceGrants x = new PresenceGrants();
        x.turnOn(2, 1, -9, 4);
        x.turnOn(2, 1, 9, 1);
        x.turnOff(2, 1);
        Check.same("off", x.seat(2, 1, 0), 0);
        Check.same("rank", x.seat(2, 1, 1), 9);
        Check.same("mood", x.seat(2, 1, 2), 1);
        x.turnOn(2, 1, 0, 0);
        Check.same("on", x.seat(2, 1, 0), 1);
        Check.same("rank 0", x.seat(2, 1, 1), 0);
        Check.same("mood 0", x.seat(2, 1, 2), 0);
    }

    private static void undoable() {
        Check.sentence("Undoable");
        PresenceGrants x = States.friends();
        Twins.Call[] calls = {
            o -> o.turnOn(0, 2, 0, 2), o -> o.turnOn(0, 1, 9, 4), o -> o.turnOn(3, 0, 0, 0), o -> o.turnOff(0, 0),
            o -> o.turnOff(1, 0),
        };
        x.deliver(0);
        x.undo();
        long before = x.digest();
        for (Twins.Call call : calls) {
            call.on(x);
            Check.same("undo", x.undo(), 3);
            Check.same("digest", x.digest(), before);
        }
    }
}
