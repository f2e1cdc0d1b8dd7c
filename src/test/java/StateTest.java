/** Promises 31 and 32: undo and digest. */
public final class StateTest {
    public static void main(String[] args) {
        undoGoesBackStepByStep();
        fourStatesAreSaved();
        fourStatesOfMany();
        undoBringsEverythingBack();
        undoLeavesTheText();
        digestOfANewObject();
        digestSeesEverything();
        Check.end("StateTest");
    }

    private static void undoGoesBackStepByStep() {
        PresenceGrants x = new PresenceGrants();
        Check.fails("undo of a new object", x, Check.STATE, () -> x.undo());
        x.ask(0, 1);
        x.ask(0, 2);
        x.ask(0, 3);
        Check.same("undo", x.undo(), 2);
        Check.same("version", x.version(0, -1), 2);
        Check.same("undo", x.undo(), 1);
        x.ask(0, 4);
        x.ask(0, 5);
        Check.same("undo", x.undo(), 2);
        Check.same("undo", x.undo(), 1);
        Check.same("undo", x.undo(), 0);
        Check.same("version", x.version(0, -1), 0);
        Check.fails("undo of nothing", x, Check.STATE, () -> x.undo());
    }

    private static void fourStatesAreSaved() {
        PresenceGrants x = new PresenceGrants();
        for (int other = 1; other < 6; other++) {
            x.ask(0, other);
        }
        x.ask(1, 0);
        Check.same("undo", x.undo(), 3);
        Check.same("undo", x.undo(), 2);
        Check.same("undo", x.undo(), 1);
        Check.same("undo", x.undo(), 0);
        Check.same("the oldest were dropped", x.version(0, -1), 2);
        Check.fails("undo", x, Check.STATE, () -> x.undo());
        Check.same("the oldest were dropped", x.entry(0, 2), 4);
    }

    private static void fourStatesOfMany() {
        PresenceGrants x = new PresenceGrants();
        for (int calls = 1; calls <= 20; calls++) {
            if (calls % 2 == 1) {
                x.ask(2, 3);
            } else {
                x.stop(2, 3);
            }
        }
        for (int saved = 3; saved >= 0; saved--) {
            Check.same("undo", x.undo(), saved);
            Check.same("version", x.version(2, 3), 16 + saved);
        }
        Check.fails("undo", x, Check.STATE, () -> x.undo());
    }

    private static void undoBringsEverythingBack() {
        PresenceGrants x = States.busyOnce();
        long before = x.digest();
        Runnable[] calls = {
            () -> x.ask(4, 2), () -> x.grant(3, 2), () -> x.refuse(1, 0), () -> x.stop(0, 1),
            () -> x.block(1, 0, true), () -> x.turnOn(1, 0, 9, 4), () -> x.turnOff(1, 1), () -> x.deliver(1),
            () -> x.lose(0), () -> x.carryOut(),
        };
        for (int i = 0; i < calls.length; i++) {
            calls[i].run();
            Check.same("digest after call " + i, x.digest() == before, false);
            x.undo();
            Check.same("digest after call " + i + " and its undo", x.digest(), before);
        }
    }

    private static void undoLeavesTheText() {
        PresenceGrants x = new PresenceGrants();
        Check.write(x, "a01;");
        x.carryOut();
        x.append(97);
        x.undo();
        Check.same("the text stays", x.clearText(), 5);
        x.ask(0, 1);
        Check.write(x, "d0");
        x.undo();
        Check.same("the text stays", x.append(49), 3);
        x.append(59);
        Check.same("and its bytes", x.carryOut(), 1);
    }

    private static void digestOfANewObject() {
        PresenceGrants x = new PresenceGrants();
        long hash = 31 * 3191L;
        for (int i = 0; i < 6 * (1 + 9 + 5 * 6); i++) {
            boolean view = i % 40 >= 10 && (i % 40 - 10) % 6 >= 3;
            hash = 31 * hash + (view ? -1 : 0);
        }
        for (int i = 0; i < 5; i++) {
            hash = 31 * hash;
        }
        Check.same("digest", x.digest(), hash);
    }

    private static void digestSeesEverything() {
        PresenceGrants x = States.busyOnce();
        long before = x.digest();
        x.append(97);
        Check.same("the text's length", x.digest() == before, false);
        x.clearText();
        x.append(98);
        long other = x.digest();
        x.clearText();
        x.append(97);
        Check.same("not the text's bytes", x.digest(), other);
        x.clearText();
        x.deliver(0);
        Check.same("the number of saved states", x.digest() - before, 1);
        x.undo();
        Check.same("back", x.digest(), before);
        x.undo();
        Check.same("new, with no state saved", x.digest(), new PresenceGrants().digest());
    }
}
