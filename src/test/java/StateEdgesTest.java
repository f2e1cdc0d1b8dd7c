import java.math.BigInteger;
import java.util.ArrayList;
import java.util.List;

/** The boundary cases of promises 1, 31 and 32, a new object, undo and digest, and of 'Undo'. */
public final class StateEdgesTest {
    private static final BigInteger TWO_TO_64 = BigInteger.ONE.shiftLeft(64);

    public static void main(String[] args) {
        newObjectSavesNothing();
        undoFromFourToNone();
        fifthStateDropsTheOldest();
        savedAfterUndo();
        stateIsSavedThoughNothingChanges();
        noStateIsSaved();
        undoIsNotUndoable();
        everythingButTheText();
        undoOfAFullRoom();
        digestWithinALong();
        digestOfAFullRoom();
        digestOfEachTextLength();
        digestOfEachNumberOfStates();
        digestOfBlocks();
        digestOfViewsAndNone();
        Check.end("StateEdgesTest");
    }

    private static void newObjectSavesNothing() {
        Check.sentence("Creates users who are not there, with rosters and views as described");
        PresenceGrants x = new PresenceGrants();
        Check.throwsJust("undo", Check.STATE, () -> x.undo());
        Check.same("under way", x.underWay(), 0);
        Check.same("agreeing", x.agreeing(), 15);
        Check.same("visible", x.visible(), 0.0);
        Check.same("digest", x.digest(), digestDue(x, 0, 0));
    }

    private static void undoFromFourToNone() {
        Check.sentence("Returns the number of saved states that remain");
        for (int saved = 0; saved <= 4; saved++) {
            PresenceGrants x = new PresenceGrants();
            for (int call = 1; call <= saved; call++) {
                x.ask(0, call);
            }
            for (int left = saved - 1; left >= 0; left--) {
                Check.same("undo", x.undo(), left);
                Check.same("version", x.version(0, -1), left);
            }
            Check.fails("undo of none", x, Check.STATE, () -> x.undo());
        }
    }

    private static void fifthStateDropsTheOldest() {
        Check.sentence("at most 4 states are saved, and the oldest is dropped first");
        for (int calls = 4; calls <= 14; calls++) {
            PresenceGrants x = new PresenceGrants();
            for (int call = 0; call < calls; call++) {
                x.ask(call / 5, call % 5 < call / 5 ? call % 5 : call % 5 + 1);
            }
            Check.same("sent", x.count(0), calls);
            for (int left = 3; left >= 0; left--) {
                Check.same("undo", x.undo(), left);
                Check.same("sent", x.count(0), calls - 4 + left);
            }
            Check.throwsJust("undo of none", Check.STATE, () -> x.undo());
        }
    }

    private static void savedAfterUndo() {
        Check.sentence("Restores the most recently saved state and removes it from the saved states");
        PresenceGrants x = new PresenceGrants();
        for (int other = 1; other < 6; other++) {
            x.ask(0, other);
        }
        Check.same("undo", x.undo(), 3);
        Check.same("undo", x.undo(), 2);
        x.ask(3, 0);
        x.ask(3, 1);
        x.ask(3, 2);
        Check.same("undo of the newest", x.undo(), 3);
        Check.same("two asks of user 3", x.version(3, -1), 2);
        Check.same("undo", x.undo(), 2);
        Check.same("undo", x.undo(), 1);
        Check.same("no ask of user 3", x.version(3, -1), 0);
        Check.same("three asks of user 0", x.version(0, -1), 3);
        Check.same("undo of one before the first undo", x.undo(), 0);
        Check.same("two asks of user 0", x.version(0, -1), 2);
        Check.throwsJust("undo of none", Check.STATE, () -> x.undo());
    }

    private static void stateIsSavedThoughNothingChanges() {
        Check.sentence("saves the state from before the call, even if the call changes nothing");
        Twins.Call[] calls = {
            x -> x.grant(0, 1), x -> x.refuse(0, 1), x -> x.stop(0, 1), x -> x.block(0, 1, false),
            x -> x.deliver(0), x -> x.deliver(1000), x -> x.carryOut(),
        };
        for (int i = 0; i < calls.length; i++) {
            PresenceGrants x = new PresenceGrants();
            long before = x.digest();
            calls[i].on(x);
            Check.same("digest after call " + i, x.digest(), before + 1);
            Check.same("undo of call " + i, x.undo(), 0);
            Check.same("digest after its undo", x.digest(), before);
        }
        PresenceGrants x = States.friends();
        x.ask(0, 1);
        x.turnOn(0, 1, 3, 3);
        Check.settle(x);
        x.turnOn(0, 1, 3, 3);
        x.lose(0);
        Check.same("undo of lose", x.undo(), 3);
        Check.same("undo of turnOn", x.undo(), 2);
        Check.same("under way", x.underWay(), 0);
    }

    private static void noStateIsSaved() {
        Check.sentence("Each successful call of a method whose description says 'undoable' saves the state");
        PresenceGrants x = new PresenceGrants();
        x.append('o');
        x.clearText();
        Check.write(x, "o00;");
        x.carryOut();
        Check.throwsJust("turnOff", Check.STATE, () -> x.turnOff(0, 0));
        Check.throwsJust("ask", Check.ARGUMENT, () -> x.ask(0, 0));
        Check.throwsJust("block", Check.INDEX, () -> x.block(0, 6, true));
        Check.throwsJust("turnOn", Check.ARGUMENT, () -> x.turnOn(0, 0, 10, 0));
        Check.throwsJust("deliver", Check.ARGUMENT, () -> x.deliver(1001));
        Check.throwsJust("lose", Check.INDEX, () -> x.lose(0));
        x.mostNeeded();
        x.untilRest();
        x.agreeingAtRest();
        x.digest();
        Check.throwsJust("undo of none", Check.STATE, () -> x.undo());
    }

    private static void undoIsNotUndoable() {
        Check.sentence("Restores the most recently saved state");
        PresenceGrants x = new PresenceGrants();
        x.ask(0, 1);
        x.undo();
        Check.throwsJust("undo of an undo", Check.STATE, () -> x.undo());
        Check.same("asked is undone", x.entry(0, 1), 0);
    }

    private static void everythingButTheText() {
        Check.sentence("The saved state contains everything except the script text");
        PresenceGrants x = States.busy();
        x.clearText();
        x.deliver(0);
        x.undo();
        long before = x.digest();
        x.block(2, 4, false);
        x.turnOn(3, 0, 1, 1);
        Check.write(x, "d99;i22;o10;");
        x.carryOut();
        x.lose(0);
        x.append('a');
        Check.same("digest is another one", x.digest() == before, false);
        for (int left = 3; left >= 0; left--) {
            Check.same("undo", x.undo(), left);
        }
        Check.same("the text stays", x.clearText(), 13);
        Check.same("digest, but for the saved states", x.digest() + 3, before);
        Check.same("the block is back", x.areApart(4, 2), true);
    }

    private static void undoOfAFullRoom() {
        Check.sentence("Restores the most recently saved state");
        PresenceGrants x = States.full();
        x.deliver(0);
        x.undo();
        long before = x.digest();
        x.deliver(17);
        x.turnOn(5, 2, 0, 4);
        x.lose(200);
        x.deliver(1000);
        Check.same("none", x.underWay(), 0);
        for (int left = 3; left >= 0; left--) {
            Check.same("undo", x.undo(), left);
        }
        Check.same("full again", x.underWay(), 300);
        Check.same("digest, but for the saved states", x.digest() + 3, before);
    }

    /** The digest without overflow, cut to a long at its end; blocks has a bit for each ordered pair. */
    private static long digestDue(PresenceGrants x, long blocks, int saved) {
        int length = x.clearText();
        for (int i = 0; i < length; i++) {
            x.append('.');
        }
        List<Integer> values = new ArrayList<>();
        values.add(length);
        for (int user = 0; user < 6; user++) {
            addUser(values, x, user, blocks);
        }
        for (int what = 0; what <= 2; what++) {
            values.add(x.count(what));
        }
        int size = x.underWay();
        values.add(size);
        for (int index = 0; index < size; index++) {
            for (int what = 0; what <= 4; what++) {
                values.add(x.message(index, what));
            }
        }
        values.add(saved);
        return hash(values);
    }

    private static long hash(List<Integer> values) {
        BigInteger hash = BigInteger.valueOf(3191);
        for (int value : values) {
            hash = hash.multiply(BigInteger.valueOf(31)).add(BigInteger.valueOf(value));
        }
        return hash.mod(TWO_TO_64).longValue();
    }

    private static void addUser(List<Integer> values, PresenceGrants x, int user, long blocks) {
        values.add(x.version(user, -1));
        for (int seat = 0; seat <= 2; seat++) {
            for (int what = 0; what <= 2; what++) {
                values.add(x.seat(user, seat, what));
            }
        }
        for (int other = 0; other < 6; other++) {
            if (other != user) {
                values.add(x.entry(user, other));
                values.add(x.version(user, other));
                values.add((int) (blocks >> user * 6 + other & 1));
                for (int seat = 0; seat <= 2; seat++) {
                    values.add(x.view(user, other, seat));
                }
            }
        }
    }

    private static void digestWithinALong() {
        Check.sentence("Returns the hash, with the overflow of long arithmetic ignored");
        PresenceGrants x = States.busy();
        long before = x.digest();
        Check.same("busy", before, digestDue(x, 1L << 2 * 6 + 4, 4));
        Check.same("again", x.digest(), before);
        PresenceGrants y = States.friends();
        Check.same("friends", y.digest(), digestDue(y, 0, 4));
    }

    /** The messages are told from the way that the room was filled: to ask for them all takes too many calls. */
    private static void digestOfAFullRoom() {
        Check.sentence("the number of messages under way and, for each of them, the oldest first");
        PresenceGrants x = States.full();
        List<Integer> values = new ArrayList<>();
        values.add(0);
        for (int user = 0; user < 6; user++) {
            addUser(values, x, user, 0);
        }
        for (int what = 0; what <= 2; what++) {
            values.add(x.count(what));
        }
        values.add(300);
        for (int index = 0; index < 300; index++) {
            values.addAll(List.of(4, 5, index % 5, 0, 0));
        }
        values.add(4);
        Check.same("full", x.digest(), hash(values));
    }

    private static void digestOfEachTextLength() {
        Check.sentence("the length of the text");
        PresenceGrants x = new PresenceGrants();
        long before = x.digest();
        long step = 0;
        for (int length = 1; length <= 100; length++) {
            x.append(length % 128);
            long now = x.digest();
            Check.same("the same step for each byte", length == 1 || now - before == step, true);
            step = now - before;
            before = now;
        }
        // The length is followed by 40 values of each user and by five more.
        Check.same("the step", step, BigInteger.valueOf(31).pow(245).mod(TWO_TO_64).longValue());
    }

    private static void digestOfEachNumberOfStates() {
        Check.sentence("the number of saved states");
        PresenceGrants x = new PresenceGrants();
        long before = x.digest();
        for (int calls = 1; calls <= 6; calls++) {
            x.deliver(0);
            Check.same("after " + calls, x.digest(), before + Math.min(calls, 4));
        }
        for (int left = 3; left >= 0; left--) {
            x.undo();
            Check.same("with " + left, x.digest(), before + left);
        }
    }

    private static void digestOfBlocks() {
        Check.sentence("1 or 0 for whether the user blocks the other one");
        States.eachPair((user, other) -> {
            long before = new PresenceGrants().digest();
            long first = 1L << user * 6 + other;
            long both = first | 1L << other * 6 + user;
            PresenceGrants x = new PresenceGrants();
            x.block(user, other, true);
            Check.same("one blocks", x.digest(), digestDue(x, first, 1));
            x.block(other, user, true);
            Check.same("both block", x.digest(), digestDue(x, both, 2));
            x.block(user, other, false);
            x.block(other, user, false);
            Check.same("none blocks, four saved states", x.digest(), before + 4);
        });
    }

    private static void digestOfViewsAndNone() {
        Check.sentence("the state and the version of the entry, and the views of the seats 0 to 2");
        PresenceGrants x = States.crowd();
        for (int user = 0; user < 5; user++) {
            x.turnOn(user, user % 3, user - 3, user);
        }
        x.deliver(12);
        Check.same("some views", x.digest(), digestDue(x, 0, 4));
    }
}
