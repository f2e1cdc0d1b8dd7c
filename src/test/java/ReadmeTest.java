/** The examples of README.md answer what README.md says. */
public final class ReadmeTest {
    public static void main(String[] args) {
        calls();
        script();
        Check.end("ReadmeTest");
    }

    private static void calls() {
        PresenceGrants x = new PresenceGrants();
        Check.same("turnOn of user 0", x.turnOn(0, 1, 3, 2), 1);
        Check.same("turnOn of user 1", x.turnOn(1, 0, 0, 4), 1);
        Check.same("ask", x.ask(0, 1), 1);
        Check.same("deliver of the ask", x.deliver(1), 1);
        Check.same("grant", x.grant(1, 0), 1);
        Check.same("deliver of grant and here", x.deliver(1000), 2);
        Check.same("view", x.view(0, 1, 0), 4);
        Check.same("undo", x.undo(), 3);
        Check.same("view after undo", x.view(0, 1, 0), PresenceGrants.NONE);
    }

    private static void script() {
        PresenceGrants y = new PresenceGrants();
        for (char sign : "i00;i10;a01;d01;g10;d02;".toCharArray()) {
            y.append(sign);
        }
        Check.same("carryOut", y.carryOut(), 6);
        Check.same("view", y.view(0, 1, 0), 0);
        Check.same("undo", y.undo(), 0);
        Check.same("seat after undo", y.seat(0, 0, 0), 0);
        Check.same("the text stays", y.clearText(), 24);
    }
}
