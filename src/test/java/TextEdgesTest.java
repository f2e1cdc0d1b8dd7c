/** The boundary cases of promises 28 to 30, append, clearText and carryOut, and of 'Script text'. */
public final class TextEdgesTest {
    private static final String LETTERS = "agrsiod";

    public static void main(String[] args) {
        appendFirstAndLastByte();
        appendUntilFull();
        clearTextOfNone();
        clearTextOfAll();
        noOrders();
        eachByteAtEachPlace();
        laterOrders();
        textThatEndsTooEarly();
        theFirstByteThatCannotStand();
        syntaxErrorBeforeAnOrderThatFails();
        userDigits();
        secondUserEqualToTheFirst();
        seatDigits();
        numbersOfD();
        rankAndMoodNought();
        asByTheMethods();
        firstOrderThatFails();
        aFullText();
        theTextStays();
        oneSavedState();
        oldestStateIsDropped();
        refusedScriptsChangeNothing();
        Check.end("TextEdgesTest");
    }

    private static int carriedOut(String text) {
        PresenceGrants x = new PresenceGrants();
        Check.write(x, text);
        return x.carryOut();
    }

    private static void appendFirstAndLastByte() {
        Check.sentence("value: the byte, 0 to 127");
        PresenceGrants x = new PresenceGrants();
        for (int value = 0; value <= 127; value++) {
            Check.same("append(" + value + ")", x.append(value), value % 64 + 1);
            if (value == 63) {
                Check.same("clearText", x.clearText(), 64);
            }
        }
    }

    private static void appendUntilFull() {
        Check.sentence("The text has at most 100 bytes. Throws IllegalStateException if the text has 100 bytes");
        PresenceGrants x = new PresenceGrants();
        for (int length = 1; length <= 100; length++) {
            Check.same("append", x.append('a'), length);
        }
        for (int again = 0; again < 3; again++) {
            Check.fails("append to 100 bytes", x, Check.STATE, () -> x.append('a'));
            Check.fails("a wrong value, which is listed first", x, Check.ARGUMENT, () -> x.append(128));
        }
        x.clearText();
        Check.same("append to an emptied text", x.append('a'), 1);
    }

    private static void clearTextOfNone() {
        Check.sentence("Returns the length that it had");
        PresenceGrants x = new PresenceGrants();
        Check.same("of a new object", x.clearText(), 0);
        Check.same("again", x.clearText(), 0);
        x.append(0);
        Check.same("of one", x.clearText(), 1);
        Check.same("of none", x.clearText(), 0);
    }

    private static void clearTextOfAll() {
        Check.sentence("Empties the script text");
        PresenceGrants x = States.fullOfAll();
        Check.same("of 100", x.clearText(), 100);
        Check.same("no orders are left", x.carryOut(), 0);
        Check.same("of none", x.clearText(), 0);
    }

    private static void noOrders() {
        Check.sentence("there may be no orders");
        PresenceGrants x = new PresenceGrants();
        Check.same("carryOut", x.carryOut(), 0);
        Check.same("one saved state, also if there are none", x.undo(), 0);
    }

    /** Whether a byte can stand behind the start of an order, told by the words of the document. */
    private static boolean canStand(String start, int value) {
        char c = (char) value;
        char letter = start.isEmpty() ? ' ' : start.charAt(0);
        switch (start.length()) {
            case 0:
                return LETTERS.indexOf(c) >= 0;
            case 1:
                return (letter == 'd' ? "0123456789" : "012345").indexOf(c) >= 0;
            case 2:
                return letter == 'd' ? "0123456789".indexOf(c) >= 0
                    : "io".indexOf(letter) >= 0 ? "012".indexOf(c) >= 0
                    : "012345".indexOf(c) >= 0 && c != start.charAt(1);
            default:
                return c == ';';
        }
    }

    private static void eachByteAtEachPlace() {
        Check.sentence("the index of the first byte that cannot stand where it stands");
        eachByteBehind("");
        for (int i = 0; i < LETTERS.length(); i++) {
            String letter = LETTERS.substring(i, i + 1);
            eachByteBehind(letter);
            int users = letter.equals("d") ? 10 : 6;
            for (int first = 0; first < users; first++) {
                eachByteBehind(letter + first);
            }
            eachByteBehind(letter + "01");
            eachByteBehind(letter + "50");
        }
    }

    private static void eachByteBehind(String start) {
        for (int value = 0; value < 128; value++) {
            String text = start + (char) value;
            int due = !canStand(start, value) ? -10 - start.length() : -10 - text.length();
            boolean whole = start.length() == 3 && value == ';';
            if (whole) {
                due = start.charAt(0) == 'o' ? -1000 : 1;
            }
            Check.same("carryOut of " + start + " and " + value, carriedOut(text), due);
        }
    }

    private static void laterOrders() {
        Check.sentence("It is a sequence of orders, each terminated by a semicolon");
        String before = "i00;d00;";
        String[] texts = {"x", "a6", "a11", "i03", "d0x", "a01:", "a", "i0", "d99", ";", " a01;", "a01; g10;"};
        int[] positions = {0, 1, 2, 2, 2, 3, 1, 2, 3, 0, 0, 4};
        for (int i = 0; i < texts.length; i++) {
            Check.same("carryOut of " + texts[i], carriedOut(texts[i]), -10 - positions[i]);
            Check.same("behind two orders", carriedOut(before + texts[i]), -10 - 8 - positions[i]);
        }
        StringBuilder many = new StringBuilder();
        for (int i = 0; i < 24; i++) {
            many.append("d00;");
        }
        Check.same("24 orders and a wrong byte", carriedOut(many + "a01x"), -10 - 99);
        Check.same("24 orders and a wrong letter", carriedOut(many + "A01;"), -10 - 96);
    }

    private static void textThatEndsTooEarly() {
        Check.sentence("or the length of the text if the text ends too early");
        StringBuilder text = new StringBuilder();
        for (int length = 1; length <= 100; length++) {
            text.append("s23;".charAt((length - 1) % 4));
            int due = length % 4 == 0 ? length / 4 : -10 - length;
            Check.same("carryOut of " + length, carriedOut(text.toString()), due);
        }
    }

    private static void theFirstByteThatCannotStand() {
        Check.sentence("The syntax error position is the index of the first byte that cannot stand where it stands");
        Check.same("two wrong ones", carriedOut("a77;"), -11);
        Check.same("wrong, and too early an end", carriedOut("x"), -10);
        Check.same("a wrong one behind a good order", carriedOut("a01;a0;"), -10 - 6);
        Check.same("a second user above 5 that is not the first", carriedOut("a06;"), -12);
        Check.same("a capital letter", carriedOut("D01;"), -10);
        Check.same("a digit of d that is missing", carriedOut("d5;"), -12);
        Check.same("three digits", carriedOut("d100;"), -13);
        Check.same("a line's end", carriedOut("a01;\n"), -14);
    }

    private static void syntaxErrorBeforeAnOrderThatFails() {
        Check.sentence("-10 minus the syntax error position if there is a syntax error");
        Check.same("behind an order that would fail", carriedOut("o00;x"), -14);
        Check.same("an end too early behind it", carriedOut("o00;o"), -15);
        Check.same("none", carriedOut("o00;"), -1000);
    }

    private static void userDigits() {
        Check.sentence("a user digit above 5");
        for (char letter : "agrs".toCharArray()) {
            for (int digits = 0; digits < 100; digits++) {
                int first = digits / 10;
                int second = digits % 10;
                int due = first > 5 ? -11 : second > 5 || second == first ? -12 : 1;
                Check.same("" + letter + digits, carriedOut("" + letter + first + second + ";"), due);
            }
        }
    }

    private static void secondUserEqualToTheFirst() {
        Check.sentence("a second user equal to the first one");
        for (int user = 0; user < 6; user++) {
            Check.same("a", carriedOut("a" + user + user + ";"), -12);
            Check.same("s, ended", carriedOut("s" + user + user), -12);
            Check.same("a seat may be equal", carriedOut("i" + user + user % 3 + ";"), 1);
            Check.same("digits of a number may be equal", carriedOut("d" + user + user + ";"), 1);
        }
    }

    private static void seatDigits() {
        Check.sentence("a seat digit above 2");
        for (int digits = 0; digits < 100; digits++) {
            int first = digits / 10;
            int second = digits % 10;
            int due = first > 5 ? -11 : second > 2 ? -12 : 1;
            Check.same("i" + digits, carriedOut("i" + first + second + ";"), due);
            Check.same("o" + digits, carriedOut("o" + first + second + ";"), due == 1 ? -1000 : due);
        }
    }

    private static void numbersOfD() {
        Check.sentence("'d' with always two digits, a number n from 00 to 99: deliver(n)");
        for (int number = 0; number < 100; number++) {
            PresenceGrants x = new PresenceGrants();
            for (int i = 0; i < 120; i++) {
                if (i % 2 == 0) {
                    x.ask(0, 1);
                } else {
                    x.stop(0, 1);
                }
            }
            Check.write(x, "d" + number / 10 + number % 10 + ";");
            Check.same("carryOut", x.carryOut(), 1);
            Check.same("arrived", x.count(1), number);
        }
        Check.same("of none under way", carriedOut("d99;"), 1);
    }

    private static void rankAndMoodNought() {
        Check.sentence("'i' turnOn() with rank 0 and mood 0");
        PresenceGrants x = new PresenceGrants();
        x.turnOn(5, 2, -9, 4);
        Check.write(x, "i52;");
        Check.same("carryOut", x.carryOut(), 1);
        Check.same("on", x.seat(5, 2, 0), 1);
        Check.same("rank", x.seat(5, 2, 1), 0);
        Check.same("mood", x.seat(5, 2, 2), 0);
        Check.same("bestSeat", x.bestSeat(5), 2);
    }

    private static void asByTheMethods() {
        Check.sentence("Carries out the orders of the text one after the other, as by the methods");
        PresenceGrants x = new PresenceGrants();
        Check.write(x, "i50;a05;d01;g50;d99;i00;d09;a50;a12;d02;g21;r50;s12;d03;o50;d01;o00;");
        Check.same("carryOut", x.carryOut(), 17);
        x.clearText();
        PresenceGrants y = new PresenceGrants();
        y.turnOn(5, 0, 0, 0);
        y.ask(0, 5);
        y.deliver(1);
        y.grant(5, 0);
        y.deliver(99);
        y.turnOn(0, 0, 0, 0);
        y.deliver(9);
        y.ask(5, 0);
        y.ask(1, 2);
        y.deliver(2);
        y.grant(2, 1);
        y.refuse(5, 0);
        y.stop(1, 2);
        y.deliver(3);
        y.turnOff(5, 0);
        y.deliver(1);
        y.turnOff(0, 0);
        Check.same("digest, but for the saved states", x.digest() - 1, y.digest() - 4);
    }

    private static void firstOrderThatFails() {
        Check.sentence("-1000 minus the index of the first order (from 0) that would throw an exception");
        for (int index = 0; index < 25; index++) {
            StringBuilder text = new StringBuilder();
            for (int i = 0; i < 25; i++) {
                text.append(i == index || i == 24 ? "o31;" : "a01;");
            }
            Check.same("order " + index, carriedOut(text.toString()), -1000 - index);
        }
        Check.same("off after on", carriedOut("i31;o31;"), 2);
        Check.same("off twice", carriedOut("i31;o31;o31;"), -1002);
        Check.same("another seat is on", carriedOut("i31;o32;"), -1001);
        Check.same("another user's seat is on", carriedOut("i31;o21;"), -1001);
        PresenceGrants x = new PresenceGrants();
        x.turnOn(3, 1, 0, 0);
        Check.write(x, "o31;");
        Check.same("on before", x.carryOut(), 1);
        Check.same("off by now", x.carryOut(), -1000);
    }

    private static void aFullText() {
        Check.sentence("The text has at most 100 bytes");
        PresenceGrants x = new PresenceGrants();
        for (int i = 0; i < 100; i++) {
            x.append("a01;s01;".charAt(i % 8));
        }
        for (int times = 1; times <= 13; times++) {
            Check.same("25 orders", x.carryOut(), 25);
        }
        // The text ends with an ask as it begins with one, so that each time but the first one order changes nothing.
        Check.same("changes", x.version(0, 1), 25 + 12 * 24);
        Check.same("lost for lack of room", x.count(2), 25 + 12 * 24 - 300);
    }

    private static void theTextStays() {
        Check.sentence("The text stays as it is");
        PresenceGrants x = new PresenceGrants();
        Check.write(x, "i00;o00;");
        Check.same("once", x.carryOut(), 2);
        Check.same("twice", x.carryOut(), 2);
        Check.write(x, "o00;");
        Check.same("that fails", x.carryOut(), -1000);
        Check.same("that fails again", x.carryOut(), -1000);
        Check.write(x, "o0");
        Check.same("a syntax error", x.carryOut(), -12);
        x.append('0');
        x.append(';');
        Check.same("it goes on", x.carryOut(), -1000);
        Check.same("its length", x.clearText(), 4);
    }

    private static void oneSavedState() {
        Check.sentence("one saved state for all orders, also if there are none");
        PresenceGrants x = new PresenceGrants();
        long before = x.digest();
        Check.write(x, "a01;a02;i00;d01;o00;");
        Check.same("carryOut", x.carryOut(), 5);
        Check.same("undo", x.undo(), 0);
        x.clearText();
        Check.same("all orders are undone", x.digest(), before);
    }

    private static void oldestStateIsDropped() {
        Check.sentence("at most 4 states are saved, and the oldest is dropped first");
        PresenceGrants x = new PresenceGrants();
        x.ask(0, 1);
        x.ask(0, 2);
        x.ask(0, 3);
        x.ask(0, 4);
        Check.write(x, "a05;a10;");
        Check.same("carryOut", x.carryOut(), 2);
        for (int left = 3; left >= 0; left--) {
            Check.same("undo", x.undo(), left);
        }
        Check.same("the first ask can't be undone", x.version(0, -1), 1);
        PresenceGrants y = new PresenceGrants();
        y.ask(0, 1);
        Check.write(y, "a02;o00;");
        Check.same("carryOut that fails", y.carryOut(), -1001);
        Check.write(y, "a02;o0");
        Check.same("a syntax error", y.carryOut(), -16);
        Check.same("neither saves a state", y.undo(), 0);
    }

    private static void refusedScriptsChangeNothing() {
        Check.sentence("If one of them would throw an exception, nothing is changed");
        String[] texts = {"a01;a02;i00;d99;o31;", "o31;", "i31;o31;o31;", "a01;a0", "x", "i00;i01;o22;"};
        for (String text : texts) {
            Twins.Maker maker = () -> {
                PresenceGrants x = States.busy();
                Check.write(x, text);
                return x;
            };
            Twins.unchanged("carryOut of " + text, maker, x -> x.carryOut());
        }
    }
}
