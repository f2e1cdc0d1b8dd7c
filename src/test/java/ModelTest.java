import java.util.Random;

/** Long mixed runs, of 512 calls each, against the Model; with calls that are wrong in between. */
public final class ModelTest {
    private static final int RUNS = 400;
    private static final int CALLS = 512;
    private static final int[] ODD = {-1, -2, 3, 5, 6, 7, 10, 300, 1001, Integer.MIN_VALUE, Integer.MAX_VALUE};
    private static final String[] ORDERS = {"a", "g", "r", "s", "i", "o", "d"};

    private final Random random;
    private final PresenceGrants x = new PresenceGrants();
    private final Model model = new Model();
    private final int crowd;
    private final boolean flood;
    private int callsMade;
    private static int fullest;
    private static int lost;
    private static int mixed;

    private ModelTest(int run) {
        random = new Random(run);
        // Few users make the same pairs meet often; a flood, late in a run, fills the room.
        crowd = 2 + run % 5;
        flood = run / 5 % 3 == 0;
    }

    public static void main(String[] args) {
        for (int run = 0; run < RUNS; run++) {
            new ModelTest(run).go(run);
        }
        Check.same("the room was full in some run", fullest, 300);
        Check.same("messages were lost for lack of room", lost > 0, true);
        Check.same("marks stood together in some run", mixed > 0, true);
        Check.end("ModelTest");
    }

    private void go(int run) {
        for (int i = 0; i < CALLS; i++) {
            String what = "run " + run + " call " + i;
            callsMade = i;
            if (random.nextInt(12) == 0) {
                wrongCall(what);
            } else {
                rightCall(what);
            }
            Check.same(what + ": digest()", x.digest(), model.digest());
            fullest = Math.max(fullest, x.underWay());
            lost = Math.max(lost, x.count(2));
        }
        everyAnswer("run " + run + " at its end");
    }

    private int user() {
        return random.nextInt(crowd);
    }

    private int other(int user) {
        int other = random.nextInt(crowd - 1);
        return other < user ? other : other + 1;
    }

    private void rightCall(String what) {
        int a = user();
        int b = other(a);
        if (flood && callsMade > 150 && random.nextInt(6) != 0) {
            turnOn(what, a);
            return;
        }
        switch (random.nextInt(20)) {
            case 0, 1 -> Check.same(what + ": ask", x.ask(a, b), model.ask(a, b));
            case 2, 3, 4 -> Check.same(what + ": grant", x.grant(a, b), model.grant(a, b));
            case 5 -> rareCall(what, a, b);
            case 6, 7, 8, 9 -> turnOn(what, a);
            case 10 -> turnOff(what, a, random.nextInt(3));
            case 11, 12, 13 -> {
                int count = random.nextInt(flood ? 40 : 4) == 0 ? random.nextInt(1001) : random.nextInt(8);
                Check.same(what + ": deliver", x.deliver(count), model.deliver(count));
            }
            case 14 -> text(what);
            case 15 -> whatIf(what);
            case 16 -> undo(what);
            default -> look(what, a, b);
        }
    }

    private void rareCall(String what, int a, int b) {
        switch (random.nextInt(5)) {
            case 0 -> Check.same(what + ": refuse", x.refuse(a, b), model.refuse(a, b));
            case 1 -> Check.same(what + ": stop", x.stop(a, b), model.stop(a, b));
            case 2 -> {
                boolean blocked = random.nextInt(3) == 0;
                Check.same(what + ": block", x.block(a, b, blocked), model.block(a, b, blocked));
            }
            case 3 -> Check.same(what + ": end of block", x.block(a, b, false), model.block(a, b, false));
            default -> {
                if (model.underWay() > 0) {
                    int index = random.nextInt(model.underWay());
                    Check.same(what + ": lose", x.lose(index), model.lose(index));
                }
            }
        }
    }

    private void turnOn(String what, int a) {
        int seat = random.nextInt(3);
        int rank = random.nextInt(19) - 9;
        int mood = random.nextInt(5);
        Check.same(what + ": turnOn", x.turnOn(a, seat, rank, mood), model.turnOn(a, seat, rank, mood));
    }

    private void turnOff(String what, int a, int seat) {
        if (model.seat(a, seat, 0) == 1) {
            Check.same(what + ": turnOff", x.turnOff(a, seat), model.turnOff(a, seat));
        } else {
            Check.fails(what + ": turnOff", x, Check.STATE, () -> x.turnOff(a, seat));
        }
    }

    private void undo(String what) {
        if (random.nextInt(3) != 0) {
            return;
        }
        int due;
        try {
            due = model.undo();
        } catch (IllegalStateException e) {
            Check.fails(what + ": undo", x, Check.STATE, () -> x.undo());
            return;
        }
        Check.same(what + ": undo", x.undo(), due);
    }

    private void text(String what) {
        switch (random.nextInt(4)) {
            case 0 -> Check.same(what + ": clearText", x.clearText(), model.clearText());
            case 1, 2 -> {
                int orders = random.nextInt(6);
                for (int i = 0; i < orders; i++) {
                    appendOrder(what);
                }
                Check.same(what + ": carryOut", x.carryOut(), model.carryOut());
            }
            default -> Check.same(what + ": carryOut", x.carryOut(), model.carryOut());
        }
    }

    private void appendOrder(String what) {
        String order = ORDERS[random.nextInt(7)] + random.nextInt(crowd) + random.nextInt(3) + ";";
        for (int i = 0; i < order.length(); i++) {
            int value = random.nextInt(200) == 0 ? random.nextInt(128) : order.charAt(i);
            int due;
            try {
                due = model.append(value);
            } catch (IllegalStateException e) {
                Check.fails(what + ": append", x, Check.STATE, () -> x.append(value));
                continue;
            }
            Check.same(what + ": append", x.append(value), due);
        }
    }

    private void whatIf(String what) {
        Check.same(what + ": untilRest", x.untilRest(), model.untilRest());
        Check.same(what + ": agreeingAtRest", x.agreeingAtRest(), model.agreeingAtRest());
        if (model.underWay() < 40 || random.nextInt(8) == 0) {
            Check.same(what + ": mostNeeded", x.mostNeeded(), model.mostNeeded());
        }
    }

    private void look(String what, int a, int b) {
        Check.same(what + ": bestSeat", x.bestSeat(a), model.bestSeat(a));
        Check.same(what + ": entry", x.entry(a, b), model.entry(a, b));
        mixed += Integer.bitCount(x.entry(a, b)) > 1 ? 1 : 0;
        Check.same(what + ": areApart", x.areApart(a, b), model.areApart(a, b));
        Check.same(what + ": agree", x.agree(a, b), model.agree(a, b));
        Check.same(what + ": agreeing", x.agreeing(), model.agreeing());
        Check.same(what + ": wrongViews", x.wrongViews(a), model.wrongViews(a));
        Check.same(what + ": visible", x.visible(), model.visible());
        int version = random.nextInt(20);
        Check.same(what + ": changedSince", x.changedSince(a, version), model.changedSince(a, version));
    }

    private void everyAnswer(String what) {
        for (int a = 0; a < 6; a++) {
            Check.same(what + ": version", x.version(a, -1), model.version(a, -1));
            for (int i = 0; i < 9; i++) {
                Check.same(what + ": seat", x.seat(a, i / 3, i % 3), model.seat(a, i / 3, i % 3));
            }
            for (int b = 0; b < 6; b++) {
                if (b == a) {
                    continue;
                }
                look(what, a, b);
                Check.same(what + ": version", x.version(a, b), model.version(a, b));
                for (int seat = 0; seat < 3; seat++) {
                    Check.same(what + ": view", x.view(a, b, seat), model.view(a, b, seat));
                }
            }
        }
        for (int i = 0; i < 3; i++) {
            Check.same(what + ": count", x.count(i), model.count(i));
        }
        for (int i = 0; i < 5 * model.underWay(); i++) {
            Check.same(what + ": message", x.message(i / 5, i % 5), model.message(i / 5, i % 5));
        }
    }

    private int odd() {
        return ODD[random.nextInt(ODD.length)];
    }

    /** One argument, or more, that may be wrong; the exception that is due stands as the document lists it. */
    private void wrongCall(String what) {
        int a = random.nextInt(3) == 0 ? odd() : user();
        int b = random.nextInt(3) == 0 ? odd() : user();
        int c = random.nextInt(3) == 0 ? odd() : random.nextInt(3);
        boolean noUser = a < 0 || a > 5;
        boolean noOther = b < 0 || b > 5;
        boolean noSeat = b < 0 || b > 2;
        if (noUser || noOther || a == b) {
            Class<?> due = noUser || noOther ? Check.INDEX : Check.ARGUMENT;
            Check.fails(what + ": ask", x, due, () -> x.ask(a, b));
            Check.fails(what + ": block", x, due, () -> x.block(a, b, true));
            Check.fails(what + ": agree", x, due, () -> x.agree(a, b));
        }
        if (noUser || noOther || c < 0 || c > 2 || a == b) {
            Class<?> due = noUser || noOther || c < 0 || c > 2 ? Check.INDEX : Check.ARGUMENT;
            Check.fails(what + ": view", x, due, () -> x.view(a, b, c));
        }
        if (noUser || noSeat || c < 0 || c > 2) {
            Class<?> due = noUser || noSeat ? Check.INDEX : Check.ARGUMENT;
            Check.fails(what + ": seat", x, due, () -> x.seat(a, b, c));
        }
        if (noUser || noSeat || c < 0 || c > 4) {
            Class<?> due = noUser || noSeat ? Check.INDEX : Check.ARGUMENT;
            Check.fails(what + ": turnOn", x, due, () -> x.turnOn(a, b, 0, c));
        }
        int index = random.nextBoolean() ? model.underWay() : odd();
        if (index < 0 || index >= model.underWay()) {
            Check.fails(what + ": lose", x, Check.INDEX, () -> x.lose(index));
            Check.fails(what + ": message", x, Check.INDEX, () -> x.message(index, c));
        }
    }
}
