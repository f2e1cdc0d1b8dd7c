import java.util.Random;

/** Long mixed runs, of the 512 calls that an object is used for, against the Model; with wrong calls in between. */
public final class ModelTest {
    private static final int RUNS = 2000;
    private static final int CALLS = 512;
    private static final int MOST_CALLS_OF_A_ROUND = 64;
    private static final int[] ODD = {-1, -2, 3, 5, 6, 7, 10, 300, 1001, Integer.MIN_VALUE, Integer.MAX_VALUE};
    private static final String[] ORDERS = {"a", "g", "r", "s", "i", "o", "d"};

    private final Random random;
    private final PresenceGrants object = new PresenceGrants();
    private final Model model = new Model();
    private final int crowd;
    private final boolean flood;
    private int calls;
    private static int fullest;
    private static int lost;
    private static int mixed;

    private ModelTest(int run) {
        random = new Random(run);
        // Few users make the same pairs meet often; a flood, by user 0 to all who see it, fills the room.
        flood = run / 5 % 3 == 0;
        crowd = flood ? 5 + run % 2 : 2 + run % 5;
    }

    public static void main(String[] args) {
        for (int run = 0; run < RUNS; run++) {
            new ModelTest(run).go(run);
        }
        Check.same("the room was full in some run", fullest, 300);
        Check.same("messages were lost for lack of room", lost > 0, true);
        Check.same("marks stood together in some run", mixed > 0, true);
        Check.end("ModelTest");
    }

    /** The object, for one call. */
    private PresenceGrants x() {
        calls++;
        return object;
    }

    private void refused(String what, Class<?> due, Runnable call) {
        // Two calls of digest, and the call itself by x().
        calls += 2;
        Check.fails(what, object, due, call);
    }

    private void go(int run) {
        if (flood) {
            letAllSeeUserNought("run " + run);
        }
        while (calls + MOST_CALLS_OF_A_ROUND < CALLS) {
            String what = "run " + run + " call " + calls;
            if (random.nextInt(12) == 0) {
                wrongCall(what);
            } else {
                rightCall(what);
            }
            Check.same(what + ": digest()", x().digest(), model.digest());
            fullest = Math.max(fullest, model.underWay());
            lost = Math.max(lost, model.count(2));
        }
        while (calls < CALLS) {
            anyAnswer("run " + run + " call " + calls);
        }
    }

    private void letAllSeeUserNought(String what) {
        for (int other = 1; other < crowd; other++) {
            Check.same(what + ": ask", x().ask(other, 0), model.ask(other, 0));
        }
        Check.same(what + ": deliver", x().deliver(99), model.deliver(99));
        for (int other = 1; other < crowd; other++) {
            Check.same(what + ": grant", x().grant(0, other), model.grant(0, other));
        }
        Check.same(what + ": deliver", x().deliver(99), model.deliver(99));
    }

    private int user() {
        return random.nextInt(crowd);
    }

    private int other(int user) {
        int other = random.nextInt(crowd - 1);
        return other < user ? other : other + 1;
    }

    private void rightCall(String what) {
        int a = user();
        int b = other(a);
        if (flood && calls > 100 && random.nextInt(6) != 0) {
            turnOn(what, 0);
            return;
        }
        switch (random.nextInt(20)) {
            case 0, 1 -> Check.same(what + ": ask", x().ask(a, b), model.ask(a, b));
            case 2, 3, 4 -> Check.same(what + ": grant", x().grant(a, b), model.grant(a, b));
            case 5 -> rareCall(what, a, b);
            case 6, 7, 8, 9 -> turnOn(what, a);
            case 10 -> turnOff(what, a, random.nextInt(3));
            case 11, 12, 13 -> {
                int count = random.nextInt(flood ? 40 : 4) == 0 ? random.nextInt(1001) : random.nextInt(8);
                Check.same(what + ": deliver", x().deliver(count), model.deliver(count));
            }
            case 14 -> text(what);
            case 15 -> whatIf(what);
            case 16 -> undo(what);
            default -> look(what, a, b);
        }
    }

    private void rareCall(String what, int a, int b) {
        switch (random.nextInt(5)) {
            case 0 -> Check.same(what + ": refuse", x().refuse(a, b), model.refuse(a, b));
            case 1 -> Check.same(what + ": stop", x().stop(a, b), model.stop(a, b));
            case 2 -> {
                boolean blocked = random.nextInt(3) == 0;
                Check.same(what + ": block", x().block(a, b, blocked), model.block(a, b, blocked));
            }
            case 3 -> Check.same(what + ": end of block", x().block(a, b, false), model.block(a, b, false));
            default -> {
                if (model.underWay() > 0) {
                    int index = random.nextInt(model.underWay());
                    Check.same(what + ": lose", x().lose(index), model.lose(index));
                }
            }
        }
    }

    private void turnOn(String what, int a) {
        int seat = random.nextInt(3);
        int rank = random.nextInt(19) - 9;
        int mood = random.nextInt(5);
        Check.same(what + ": turnOn", x().turnOn(a, seat, rank, mood), model.turnOn(a, seat, rank, mood));
    }

    private void turnOff(String what, int a, int seat) {
        if (model.seat(a, seat, 0) == 1) {
            Check.same(what + ": turnOff", x().turnOff(a, seat), model.turnOff(a, seat));
        } else {
            refused(what + ": turnOff", Check.STATE, () -> x().turnOff(a, seat));
        }
    }

    private void undo(String what) {
        if (random.nextInt(3) != 0) {
            return;
        }
        int due;
        try {
            due = model.undo();
        } catch (IllegalStateException e) {
            refused(what + ": undo", Check.STATE, () -> x().undo());
            return;
        }
        Check.same(what + ": undo", x().undo(), due);
    }

    private void text(String what) {
        switch (random.nextInt(4)) {
            case 0 -> Check.same(what + ": clearText", x().clearText(), model.clearText());
            case 1, 2 -> {
                int orders = random.nextInt(6);
                for (int i = 0; i < orders; i++) {
                    appendOrder(what);
                }
                Check.same(what + ": carryOut", x().carryOut(), model.carryOut());
            }
            default -> Check.same(what + ": carryOut", x().carryOut(), model.carryOut());
        }
    }

    private void appendOrder(String what) {
        String order = ORDERS[random.nextInt(7)] + random.nextInt(crowd) + random.nextInt(3) + ";";
        for (int i = 0; i < order.length(); i++) {
            int value = random.nextInt(200) == 0 ? random.nextInt(128) : order.charAt(i);
            int due;
            try {
                due = model.append(value);
            } catch (IllegalStateException e) {
                refused(what + ": append", Check.STATE, () -> x().append(value));
                continue;
            }
            Check.same(what + ": append", x().append(value), due);
        }
    }

    private void whatIf(String what) {
        Check.same(what + ": untilRest", x().untilRest(), model.untilRest());
        Check.same(what + ": agreeingAtRest", x().agreeingAtRest(), model.agreeingAtRest());
        if (model.underWay() < 40 || random.nextInt(8) == 0) {
            Check.same(what + ": mostNeeded", x().mostNeeded(), model.mostNeeded());
        }
    }

    private void look(String what, int a, int b) {
        Check.same(what + ": bestSeat", x().bestSeat(a), model.bestSeat(a));
        Check.same(what + ": entry", x().entry(a, b), model.entry(a, b));
        mixed += Integer.bitCount(model.entry(a, b)) > 1 ? 1 : 0;
        Check.same(what + ": areApart", x().areApart(a, b), model.areApart(a, b));
        Check.same(what + ": agree", x().agree(a, b), model.agree(a, b));
        Check.same(what + ": agreeing", x().agreeing(), model.agreeing());
        Check.same(what + ": wrongViews", x().wrongViews(a), model.wrongViews(a));
        Check.same(what + ": visible", x().visible(), model.visible());
        int version = random.nextInt(20);
        Check.same(what + ": changedSince", x().changedSince(a, version), model.changedSince(a, version));
    }

    private void anyAnswer(String what) {
        int a = random.nextInt(6);
        int b = (a + 1 + random.nextInt(5)) % 6;
        int i = random.nextInt(3);
        int j = random.nextInt(3);
        switch (random.nextInt(6)) {
            case 0 -> Check.same(what + ": version", x().version(a, -1), model.version(a, -1));
            case 1 -> Check.same(what + ": version", x().version(a, b), model.version(a, b));
            case 2 -> Check.same(what + ": view", x().view(a, b, i), model.view(a, b, i));
            case 3 -> Check.same(what + ": seat", x().seat(a, i, j), model.seat(a, i, j));
            case 4 -> Check.same(what + ": count", x().count(i), model.count(i));
            default -> anyMessage(what);
        }
    }

    private void anyMessage(String what) {
        int size = model.underWay();
        Check.same(what + ": underWay", x().underWay(), size);
        if (size > 0 && calls < CALLS) {
            int index = random.nextInt(size);
            int part = random.nextInt(5);
            Check.same(what + ": message", x().message(index, part), model.message(index, part));
        }
    }

    private int odd() {
        return ODD[random.nextInt(ODD.length)];
    }

    /** One argument, or more, that may be wrong; the exception that is due stands as the document lists it. */
    private void wrongCall(String what) {
        int a = random.nextInt(3) == 0 ? odd() : user();
        int b = random.nextInt(3) == 0 ? odd() : user();
        int c = random.nextInt(3) == 0 ? odd() : random.nextInt(3);
        boolean noUser = a < 0 || a > 5;
        boolean noOther = b < 0 || b > 5;
        boolean noSeat = b < 0 || b > 2;
        if (noUser || noOther || a == b) {
            Class<?> due = noUser || noOther ? Check.INDEX : Check.ARGUMENT;
            refused(what + ": ask", due, () -> x().ask(a, b));
            refused(what + ": block", due, () -> x().block(a, b, true));
            refused(what + ": agree", due, () -> x().agree(a, b));
        }
        if (noUser || noOther || c < 0 || c > 2 || a == b) {
            Class<?> due = noUser || noOther || c < 0 || c > 2 ? Check.INDEX : Check.ARGUMENT;
            refused(what + ": view", due, () -> x().view(a, b, c));
        }
        if (noUser || noSeat || c < 0 || c > 2) {
            Class<?> due = noUser || noSeat ? Check.INDEX : Check.ARGUMENT;
            refused(what + ": seat", due, () -> x().seat(a, b, c));
        }
        if (noUser || noSeat || c < 0 || c > 4) {
            Class<?> due = noUser || noSeat ? Check.INDEX : Check.ARGUMENT;
            refused(what + ": turnOn", due, () -> x().turnOn(a, b, 0, c));
        }
        int index = random.nextBoolean() ? model.underWay() : odd();
        if (index < 0 || index >= model.underWay()) {
            refused(what + ": lose", Check.INDEX, () -> x().lose(index));
            refused(what + ": message", Check.INDEX, () -> x().message(index, c));
        }
    }
}
