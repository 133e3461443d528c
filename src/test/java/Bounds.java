/** What the tests of boundary cases share: calls that are refused or throw, told for Script with all that is due. */
final class Bounds {
    static final String SIX_NETS = "net(false) = 0; net(false) = 1; net(false) = 2; net(false) = 3; net(false) = 4; "
            + "net(false) = 5; ";

    /** Numbers that no net, pin, row, column, layer, place, index or "what" has. */
    static final int[] FAR_OFF = {Integer.MIN_VALUE, -1073741824, -64, -32, -1, 32, 64, 256, 65536, 1073741824,
        Integer.MAX_VALUE};

    private Bounds() {
    }

    /** A call that is refused: the exception, and the three numbers of the reason. */
    static String refused(String call, int reason, int detail) {
        return call + " = throws UnsupportedOperationException; " + reason(reason, detail, 0);
    }

    static String reason(int reason, int detail, int command) {
        return "reason(0) = " + reason + "; reason(1) = " + detail + "; reason(2) = " + command + "; ";
    }

    static String noReason() {
        return element("reason(0)") + element("reason(1)") + element("reason(2)");
    }

    /** A text of which a command is refused. */
    static String refusedText(String text, int reason, int detail, int command) {
        return "type(\"" + text + "\"); commands() = throws UnsupportedOperationException; faultPosition() = -1; "
                + "account(9) = 0; " + reason(reason, detail, command);
    }

    static String faultyText(String text, int position) {
        return "type(\"" + text + "\"); " + faulty(position);
    }

    static String faulty(int position) {
        return argument("commands()") + "faultPosition() = " + position + "; account(9) = 0; ";
    }

    static String carriedOut(String text, int count) {
        return "type(\"" + text + "\"); commands() = " + count + "; faultPosition() = -1; account(9) = 0; ";
    }

    static String index(String call) {
        return call + " = throws IndexOutOfBoundsException; ";
    }

    static String argument(String call) {
        return call + " = throws IllegalArgumentException; ";
    }

    static String element(String call) {
        return call + " = throws NoSuchElementException; ";
    }

    static String state(String call) {
        return call + " = throws IllegalStateException; ";
    }

    static String arithmetic(String call) {
        return call + " = throws ArithmeticException; ";
    }

    /** Walls, as many as there are numbers, each a row, a column and a layer written together, as in 123. */
    static String walls(int... cells) {
        StringBuilder calls = new StringBuilder();
        for (int cell : cells) {
            calls.append("wall(" + cell / 100 + ", " + cell / 10 % 10 + ", " + cell % 10 + "); ");
        }
        return calls.toString();
    }

    /** Pins of a net, each a row and a column written together, as in 12. */
    static String pins(int net, int... places) {
        StringBuilder calls = new StringBuilder();
        for (int place : places) {
            calls.append("pin(" + net + ", " + place / 10 + ", " + place % 10 + "); ");
        }
        return calls.toString();
    }

    /** Six nets, of which five lie along the rows 0 to 4, each with two holes; the row 5 is free for net 5. */
    static String tenHoles() {
        StringBuilder calls = new StringBuilder(SIX_NETS);
        for (int row = 0; row < 6; row++) {
            calls.append("wall(" + row + ", 1, 0); wall(" + row + ", 3, 1); wall(" + row + ", 5, 0); ");
        }
        for (int row = 0; row < 5; row++) {
            calls.append(pins(row, 10 * row, 10 * row + 6) + "route(" + row + ") = 16; ");
        }
        return calls + "pin(5, 5, 0) = 0; wall(5, 7, 1) = 19; holes() = 10; ";
    }
}
