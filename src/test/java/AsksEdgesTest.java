/** The boundary cases of promises 2 to 6, ask, grant, refuse, stop and block, against each state of an entry. */
public final class AsksEdgesTest {
    private static final int SEES = 1;
    private static final int SEEN = 2;
    private static final int ASKED = 4;
    private static final int ASKING = 8;

    private interface PairCall {
        int on(PresenceGrants x);
    }

    public static void main(String[] args) {
        for (int marks : States.MARKS) {
            askWith(marks);
            grantWith(marks);
            refuseWith(marks);
            stopWith(marks);
            blockWith(marks);
            endOfBlockWith(marks, true);
            endOfBlockWith(marks, false);
        }
        othersKeepTheirMarks();
        stopForgetsAllViewsOfTheOtherOne();
        refuseLeavesOwnViews();
        blockSendsBeforeItBegins();
        blockOfOneWhoBlocks();
        endOfOneBlockOfTwo();
        blockThatIsNoChange();
        endOfBlockNeedsTheUserThere();
        fullRoom();
        undoable();
        Check.end("AsksEdgesTest");
    }

    /** User 0 has these marks for user 1, and its seats 0 and 2 are on; user 1 has seat 1 on. */
    private static PresenceGrants marked(int marks) {
        PresenceGrants x = new PresenceGrants();
        x.turnOn(0, 2, 0, 2);
        x.turnOn(0, 0, 0, 1);
        x.turnOn(1, 1, 0, 3);
        States.mark(x, marks);
        Check.views("marks " + marks, x, 0, 1, -1, (marks & SEES) != 0 ? 3 : -1, -1);
        Check.views("marks " + marks, x, 1, 0, (marks & SEEN) != 0 ? 1 : -1, -1, (marks & SEEN) != 0 ? 2 : -1);
        return x;
    }

    /** Looks at a call of user 0: its answer, its entry and version after it, and what is sent. */
    private static void isDue(String what, PresenceGrants x, PairCall call, int due, int entry, String sent) {
        int version = x.version(0, -1);
        int theirs = x.entry(1, 0);
        boolean changes = x.entry(0, 1) != entry;
        Check.same(what, call.on(x), due);
        Check.same(what + ": entry", x.entry(0, 1), entry);
        Check.same(what + ": version", x.version(0, -1), version + (changes ? 1 : 0));
        Check.same(what + ": version of the entry", changes ? x.version(0, 1) : version, x.version(0, -1));
        Check.same(what + ": entry of the other one", x.entry(1, 0), theirs);
        Check.post(what, x, sent);
    }

    private static void askWith(int marks) {
        Check.sentence("if neither sees nor asked is set, asked is set, and an ask is sent");
        boolean asks = (marks & (SEES | ASKED)) == 0;
        isDue("ask with " + marks, marked(marks), x -> x.ask(0, 1), asks ? 1 : 0, asks ? marks | ASKED : marks,
            asks ? "ask 0>1" : "");
    }

    private static void grantWith(int marks) {
        Check.sentence("if asking is set, it is taken away and seen is set, a grant is sent, and the user shows itself");
        boolean grants = (marks & ASKING) != 0;
        isDue("grant with " + marks, marked(marks), x -> x.grant(0, 1), grants ? 1 : 0,
            grants ? marks - ASKING + SEEN : marks, grants ? "grant 0>1, here 0>1 0:1, here 0>1 2:2" : "");
    }

    private static void refuseWith(int marks) {
        Check.sentence("if seen or asking is set, both are taken away, a refuse is sent, and, if seen was set, hides");
        boolean refuses = (marks & (SEEN | ASKING)) != 0;
        String hides = (marks & SEEN) != 0 ? ", gone 0>1 0, gone 0>1 2" : "";
        isDue("refuse with " + marks, marked(marks), x -> x.refuse(0, 1), refuses ? 1 : 0,
            marks & (SEES | ASKED), refuses ? "refuse 0>1" + hides : "");
    }

    private static void stopWith(int marks) {
        Check.sentence("if sees or asked is set, both are taken away, a stop is sent, and all views become none");
        boolean stops = (marks & (SEES | ASKED)) != 0;
        PresenceGrants x = marked(marks);
        isDue("stop with " + marks, x, o -> o.stop(0, 1), stops ? 1 : 0, marks & (SEEN | ASKING),
            stops ? "stop 0>1" : "");
        Check.views("stop with " + marks, x, 0, 1, -1, -1, -1);
    }

    private static void blockWith(int marks) {
        Check.sentence("first hides from it, if seen is set for it; all views that the user has become none");
        PresenceGrants x = marked(marks);
        boolean seen = (marks & SEEN) != 0;
        isDue("block with " + marks, x, o -> o.block(0, 1, true), 1, marks, seen ? "gone 0>1 0, gone 0>1 2" : "");
        Check.views("of the one who blocks", x, 0, 1, -1, -1, -1);
        Check.views("those that the other one has stay", x, 1, 0, seen ? 1 : -1, -1, seen ? 2 : -1);
        int arrived = x.count(1);
        Check.same("deliver", x.deliver(9), seen ? 2 : 0);
        Check.views("nothing happens when they arrive", x, 1, 0, seen ? 1 : -1, -1, seen ? 2 : -1);
        Check.same("but they have arrived", x.count(1), arrived + (seen ? 2 : 0));
    }

    private static void endOfBlockWith(int marks, boolean there) {
        Check.sentence("sends a probe to the other one if sees is set and the user is there, and then shows itself");
        PresenceGrants x = marked(marks);
        if (!there) {
            x.turnOff(0, 0);
            x.turnOff(0, 2);
        }
        x.block(0, 1, true);
        Check.settle(x);
        boolean probes = (marks & SEES) != 0 && there;
        boolean shows = (marks & SEEN) != 0 && there;
        String sent = (probes ? "probe 0>1" : "") + (probes && shows ? ", " : "")
            + (shows ? "here 0>1 0:1, here 0>1 2:2" : "");
        isDue("end of block with " + marks, x, o -> o.block(0, 1, false), 1, marks, sent);
    }

    private static void othersKeepTheirMarks() {
        Check.sentence("(in the roster of b the entry of a is meant, if nothing else is said)");
        PresenceGrants x = States.crowd();
        x.ask(0, 1);
        x.ask(1, 0);
        Check.settle(x);
        x.refuse(0, 1);
        x.stop(0, 1);
        Check.settle(x);
        Check.same("both without marks", x.entry(0, 1) + x.entry(1, 0), 0);
        for (int user = 0; user < 5; user++) {
            Check.same("sees", x.entry(user, 5), SEES);
            Check.same("seen", x.entry(5, user), SEEN);
        }
    }

    private static void stopForgetsAllViewsOfTheOtherOne() {
        Check.sentence("and all views of seats of the other one become none");
        PresenceGrants x = States.crowd();
        x.turnOn(0, 0, 0, 0);
        x.turnOn(1, 0, 0, 0);
        x.turnOn(2, 1, 0, 4);
        Check.letSee(x, 0, 2);
        Check.views("before", x, 0, 5, 0, 1, 2);
        x.stop(0, 5);
        Check.views("of the other one", x, 0, 5, -1, -1, -1);
        Check.views("of another one", x, 0, 2, -1, 4, -1);
        Check.views("of another user", x, 1, 5, 0, 1, 2);
    }

    private static void refuseLeavesOwnViews() {
        Check.sentence("a refuse is sent, and, if seen was set, the user hides from the other one");
        PresenceGrants x = States.friends();
        x.refuse(0, 1);
        Check.views("its own views stay", x, 0, 1, 3, -1, -1);
        Check.views("the other one's stay until it arrives", x, 1, 0, 1, -1, 2);
        x.deliver(1);
        Check.views("all become none by the refuse", x, 1, 0, -1, -1, -1);
    }

    private static void blockSendsBeforeItBegins() {
        Check.sentence("these messages are sent before the block begins");
        PresenceGrants x = States.friends();
        int sent = x.count(0);
        x.block(0, 1, true);
        Check.same("sent", x.count(0), sent + 2);
        x.block(0, 1, false);
        Check.post("end of the block", x, "gone 0>1 0, gone 0>1 2, probe 0>1, here 0>1 0:1, here 0>1 2:2");
        x.deliver(2);
        Check.views("they arrive after the block", x, 1, 0, -1, -1, -1);
    }

    private static void blockOfOneWhoBlocks() {
        Check.sentence("A message that is sent between users who are apart is not sent at all");
        PresenceGrants x = States.friends();
        x.block(1, 0, true);
        Check.settle(x);
        Check.views("those that the other one has stay", x, 0, 1, 3, -1, -1);
        int sent = x.count(0);
        Check.same("block", x.block(0, 1, true), 1);
        Check.same("sent", x.count(0), sent);
        Check.views("its views become none", x, 0, 1, -1, -1, -1);
    }

    private static void endOfOneBlockOfTwo() {
        Check.sentence("sends a probe to the other one (after the end of the block)");
        PresenceGrants x = States.friends();
        x.block(0, 1, true);
        x.block(1, 0, true);
        Check.settle(x);
        Check.same("end of one", x.block(0, 1, false), 1);
        Check.same("still apart, nothing is sent", x.underWay(), 0);
        Check.same("end of the other", x.block(1, 0, false), 1);
        Check.post("not apart", x, "probe 1>0, here 1>0 0:3");
    }

    private static void blockThatIsNoChange() {
        Check.sentence("Returns 1 if this is a change, otherwise 0 (then nothing happens)");
        PresenceGrants x = States.friends();
        Check.same("end of no block", x.block(0, 1, false), 0);
        Check.same("end of no block sends nothing", x.underWay(), 0);
        Check.views("and forgets nothing", x, 0, 1, 3, -1, -1);
        x.block(1, 0, true);
        Check.same("a block of the other one is not its own", x.block(0, 1, false), 0);
        Check.same("still apart", x.areApart(0, 1), true);
        Check.settle(x);
        Check.same("block again", x.block(1, 0, true), 0);
        Check.same("block again sends nothing", x.underWay(), 0);
    }

    /** The probe is for one who is there; the here of one who is not there is none. */
    private static void endOfBlockNeedsTheUserThere() {
        Check.sentence("if sees is set and the user is there");
        PresenceGrants x = States.friends();
        x.turnOff(1, 0);
        x.block(0, 1, true);
        Check.settle(x);
        x.block(0, 1, false);
        Check.post("the other one need not be there", x, "probe 0>1, here 0>1 0:1, here 0>1 2:2");
    }

    private static void fullRoom() {
        Check.sentence("Returns 1 if asked has been set, otherwise 0");
        PresenceGrants x = States.full();
        Check.same("ask in a full room", x.ask(0, 1), 1);
        Check.same("again", x.ask(0, 1), 0);
        Check.same("stop in a full room", x.stop(0, 1), 1);
        Check.same("again", x.stop(0, 1), 0);
        Check.same("refuse in a full room", x.refuse(5, 1), 1);
        Check.same("again", x.refuse(5, 1), 0);
        Check.same("lost", x.count(2), 6);
    }

    private static void undoable() {
        Check.sentence("Undoable");
        PairCall[] calls = {
            x -> x.ask(2, 0), x -> x.grant(0, 3), x -> x.refuse(0, 1), x -> x.stop(0, 1), x -> x.block(0, 1, true),
            x -> x.block(2, 3, false), x -> x.ask(0, 1), x -> x.grant(0, 1), x -> x.refuse(2, 3), x -> x.stop(2, 3),
        };
        int[] due = {1, 1, 1, 1, 1, 0, 0, 0, 0, 0};
        for (int i = 0; i < calls.length; i++) {
            PresenceGrants x = States.friends();
            x.ask(3, 0);
            x.deliver(1);
            Check.same("undo", x.undo(), 3);
            x.deliver(1);
            long before = x.digest();
            Check.same("call " + i, calls[i].on(x), due[i]);
            Check.same("undo of call " + i, x.undo(), 3);
            // One state fewer is saved than before the call, when the oldest of four was dropped.
            Check.same("digest after call " + i, x.digest(), before - 1);
        }
    }
}
