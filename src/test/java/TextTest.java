/** Promises 28 to 30: append, clearText, carryOut. */
public final class TextTest {
    public static void main(String[] args) {
        appendTakesEveryByte();
        appendEndsAtAHundred();
        clearTextTellsTheLength();
        ordersAreCarriedOut();
        ordersBeginFromTheStateNow();
        anOrderMayFail();
        syntaxErrors();
        everySecondByte();
        oneStateIsSaved();
        aFullTextIsCarriedOut();
        Check.end("TextTest");
    }

    private static void appendTakesEveryByte() {
        PresenceGrants x = new PresenceGrants();
        Check.same("append(0)", x.append(0), 1);
        Check.same("append(127)", x.append(127), 2);
        for (int bad : new int[] {-1, 128, 97 + 256, Integer.MIN_VALUE, Integer.MAX_VALUE}) {
            Check.fails("append(" + bad + ")", x, Check.ARGUMENT, () -> x.append(bad));
        }
        Check.same("clearText", x.clearText(), 2);
    }

    private static void appendEndsAtAHundred() {
        PresenceGrants x = new PresenceGrants();
        for (int i = 1; i <= 100; i++) {
            Check.same("append", x.append(59), i);
        }
        Check.fails("append to a full text", x, Check.STATE, () -> x.append(97));
        Check.fails("a wrong append to a full text", x, Check.ARGUMENT, () -> x.append(128));
        Check.same("clearText", x.clearText(), 100);
        Check.same("append again", x.append(59), 1);
    }

    private static void clearTextTellsTheLength() {
        PresenceGrants x = new PresenceGrants();
        Check.same("of an empty text", x.clearText(), 0);
        Check.write(x, "a01");
        Check.same("of three bytes", x.clearText(), 3);
        Check.same("of an empty text again", x.clearText(), 0);
        Check.fails("text is not undoable", x, Check.STATE, () -> x.undo());
    }

    private static void ordersAreCarriedOut() {
        PresenceGrants x = new PresenceGrants();
        Check.same("no orders", x.carryOut(), 0);
        Check.write(x, "i00;i12;a01;d01;g10;d10;");
        Check.same("six orders", x.carryOut(), 6);
        Check.same("entry(0, 1)", x.entry(0, 1), 1);
        Check.same("entry(1, 0)", x.entry(1, 0), 2);
        Check.views("shown", x, 0, 1, -1, -1, 0);
        Check.same("rank", x.seat(1, 2, 1), 0);
        Check.same("arrived", x.count(1), 3);
        x.turnOn(1, 2, 7, 3);
        Check.write(x, "r10;i12;");
        Check.same("two orders", x.carryOut(), 2);
        Check.same("refused", x.entry(1, 0), 0);
        Check.same("rank of i", x.seat(1, 2, 1), 0);
        Check.same("mood of i", x.seat(1, 2, 2), 0);
        Check.write(x, "s01;o12;");
        Check.same("two orders", x.carryOut(), 2);
        Check.same("stopped", x.entry(0, 1), 0);
        Check.same("off", x.seat(1, 2, 0), 0);
        Check.same("the text stays", x.clearText(), 8);
        Check.write(x, "a45;a54;a23;d02;");
        PresenceGrants y = new PresenceGrants();
        Check.write(y, "a45;a54;a23;d02;");
        Check.same("four orders", y.carryOut(), 4);
        Check.same("two arrived", y.count(1), 2);
        Check.same("one is under way", y.underWay(), 1);
        Check.write(y, "d00;d99;a01;d10;");
        y.carryOut();
        Check.same("deliver of 99, then of 10", y.count(1), 4);
    }

    private static void ordersBeginFromTheStateNow() {
        PresenceGrants x = new PresenceGrants();
        Check.write(x, "a01;s01;a01;s01;a01;s01;a01;s01;a01;s01;a01;s01;a01;s01;a01;s01;");
        x.carryOut();
        Check.write(x, "o00;");
        x.carryOut();
        x.deliver(1);
        Check.write(x, "d12;");
        x.carryOut();
        Check.same("one arrived, and then twelve", x.count(1), 13);
        Check.same("three are under way", x.underWay(), 3);
    }

    private static void anOrderMayFail() {
        PresenceGrants x = new PresenceGrants();
        Check.write(x, "o00;");
        failsAt(x, -1000);
        Check.write(x, "i00;a01;o00;o00;d99;");
        failsAt(x, -1003);
        Check.write(x, "i00;o00;i00;o00;");
        Check.same("on and off twice", x.carryOut(), 4);
        Check.write(x, "a01;o52;");
        failsAt(x, -1001);
        Check.same("the text stays", x.clearText(), 8);
    }

    private static void failsAt(PresenceGrants x, int due) {
        long before = x.digest();
        Check.same("carryOut that fails", x.carryOut(), due);
        Check.same("changes nothing", x.digest(), before);
    }

    private static void syntaxErrors() {
        String[] texts = {
            "a", "a0", "a01", "a01;g", "x", ";", " ", "A01;", "a6", "a/", "a:", "a01;a55;", "a06;", "a0/;",
            "a01 ", "a01,", "a01;;", "i03;", "i60;", "o03;", "o60;", "i0:", "d", "d9", "d9;", "d1a;", "da1;",
            "d:0;", "d0/;", "d99;d", "d990;", "o00;x", "g22;", "r33;", "s44;", "b01;", "t01;", "0", "a01;\n",
        };
        int[] positions = {
            1, 2, 3, 5, 0, 0, 0, 0, 1, 1, 1, 6, 2, 2,
            3, 3, 4, 2, 1, 2, 1, 2, 1, 2, 2, 2, 1,
            1, 2, 5, 3, 4, 2, 2, 2, 0, 0, 0, 4,
        };
        Check.same("as many positions as texts", positions.length, texts.length);
        for (int i = 0; i < texts.length; i++) {
            PresenceGrants x = new PresenceGrants();
            Check.write(x, texts[i]);
            long before = x.digest();
            Check.same("carryOut of " + texts[i], x.carryOut(), -10 - positions[i]);
            Check.same("digest after " + texts[i], x.digest(), before);
        }
    }

    /** Every byte at every place of an order, told by the plain words of the document. */
    private static void everySecondByte() {
        for (int letter = 0; letter < 128; letter++) {
            boolean known = "agrsiod".indexOf(letter) >= 0;
            triedAt(0, "", letter, known);
            triedAt(1, "a", letter, letter >= '0' && letter <= '5');
            triedAt(1, "o", letter, letter >= '0' && letter <= '5');
            triedAt(1, "d", letter, letter >= '0' && letter <= '9');
            triedAt(2, "r3", letter, letter >= '0' && letter <= '5' && letter != '3');
            triedAt(2, "s5", letter, letter >= '0' && letter <= '4');
            triedAt(2, "i1", letter, letter >= '0' && letter <= '2');
            triedAt(2, "d9", letter, letter >= '0' && letter <= '9');
            triedAt(3, "g01", letter, letter == ';');
            triedAt(3, "d00", letter, letter == ';');
        }
    }

    private static void triedAt(int at, String start, int value, boolean stands) {
        PresenceGrants x = new PresenceGrants();
        Check.write(x, start);
        x.append(value);
        int due = stands ? at == 3 ? 1 : -10 - (at + 1) : -10 - at;
        Check.same("carryOut of " + start + " and byte " + value, x.carryOut(), due);
    }

    private static void oneStateIsSaved() {
        PresenceGrants x = new PresenceGrants();
        x.carryOut();
        Check.same("one state though no orders", Check.undoAll(x), 1);
        Check.write(x, "a01;a02;a03;");
        x.carryOut();
        Check.same("asked", x.entry(0, 3), 4);
        Check.same("one state for all orders", x.undo(), 0);
        Check.same("nothing asked", x.entry(0, 1) + x.entry(0, 2) + x.entry(0, 3), 0);
        Check.same("nothing sent", x.count(0), 0);
        Check.same("the text stays", x.clearText(), 12);
        Check.write(x, "o00;");
        x.carryOut();
        Check.fails("no state after an order that failed", x, Check.STATE, () -> x.undo());
        Check.write(x, "o0");
        x.carryOut();
        Check.fails("no state after a syntax error", x, Check.STATE, () -> x.undo());
    }

    private static void aFullTextIsCarriedOut() {
        PresenceGrants x = new PresenceGrants();
        StringBuilder text = new StringBuilder();
        for (int i = 0; i < 25; i++) {
            text.append(i % 2 == 0 ? "a01;" : "s01;");
        }
        Check.write(x, text.toString());
        Check.same("25 orders", x.carryOut(), 25);
        Check.same("as many changes", x.version(0, -1), 25);
        Check.write(x, text.substring(0, 99) + "x");
        Check.same("an error in the last byte", x.carryOut(), -10 - 99);
        Check.write(x, text.substring(0, 99));
        Check.same("a text that ends too early", x.carryOut(), -10 - 99);
    }
}
