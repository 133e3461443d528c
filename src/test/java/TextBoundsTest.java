/** The bounds of texts: the empty buffer and the full one, each character that can continue a text, and none else. */
public final class TextBoundsTest {
    private static final String LETTERS = "rhxpw";
    private static final String DIGITS = "0123456789";
    /** What a text can be so far, and what can continue it; a text in the third column is whole with that. */
    private static final String[][] BEGINNINGS = {
        {"", LETTERS, ""}, {"r", DIGITS, "whole"}, {"h", DIGITS, "whole"}, {"x", DIGITS, "whole"}, {"p", DIGITS, ""},
        {"p5", "@", ""}, {"p5@", DIGITS, ""}, {"p5@4", DIGITS, "whole"}, {"w", DIGITS, ""}, {"w5", DIGITS, ""},
        {"w57", DIGITS, "whole"}, {"r0", ";", ""}, {"h9", ";", ""}, {"x5", ";", ""}, {"p5@47", ";", ""},
        {"w571", ";", ""}, {"r0;", LETTERS, ""}, {"p0@11;", LETTERS, ""}, {"w000;", LETTERS, ""},
    };

    public static void main(String[] args) {
        lengths();
        fullBuffer();
        eachCharacter();
        faults();
        emptyAfterwards();
        noneIsCarriedOut();
        numbers();
        asTheMethods();
        indexOfTheCommand();
        Script.finish();
    }

    private static void lengths() {
        StringBuilder calls = new StringBuilder("account(9) = 0; ");
        for (int length = 1; length <= 60; length++) {
            calls.append("append('w') = " + length + "; account(9) = " + length + "; ");
        }
        Script.run("the new length of the buffer, up to 60", calls + Bounds.state("append('w')") + Bounds.state("append('r')")
                + "account(9) = 60; account(8) = 0; " + Bounds.faulty(1) + "append('w') = 1");
        Script.run("an empty buffer", Bounds.faulty(0) + Bounds.faulty(0) + "append('r') = 1; " + Bounds.faulty(1)
                + Bounds.noReason() + "account(8) = 0");
        Script.run("any character can be appended", "append(0) = 1; append(65535) = 2; append(255) = 3; append(256) = 4; "
                + "append(' ') = 5; append(10) = 6; " + Bounds.faulty(0));
    }

    private static void fullBuffer() {
        String twoPins = "net(false); " + Bounds.pins(0, 30, 32);
        String full = "r0;x0;w000;w001;w010;w011;w020;w021;w030;w031;w040;w041;w050";
        Script.run("a text of 60 characters", twoPins + "type(\"" + full + "\"); account(9) = 60; "
                + Bounds.state("append(';')") + "commands() = 13; faultPosition() = -1; account(3) = 11; netOf(0, 6) = 1; "
                + "account(8) = 4; account(9) = 0; undo() = 3; account(3) = 0; netOf(0, 6) = 0");
        Script.run("a text of 59 characters and twenty commands", twoPins + Bounds.carriedOut("r0;x0;".repeat(9) + "r0;x0", 20)
                + "netOf(0, 6) = 10; account(7) = 10; account(8) = 4");
        Script.run("a fault at the last of 60 characters", twoPins + Bounds.faultyText(full.substring(0, 59) + "x", 59)
                + "account(3) = 0; netOf(0, 6) = 0; account(8) = 3");
        Script.run("a text of 60 characters that ends too early", twoPins + Bounds.faultyText("r0;x0;".repeat(10), 60)
                + Bounds.faultyText("w000;".repeat(12), 60) + "account(3) = 0; netOf(0, 6) = 0");
        Script.run("a command that is refused at the end of 60 characters", twoPins
                + Bounds.refusedText(full.substring(0, 57) + "049", 1, 0, 12) + "account(3) = 0; netOf(0, 6) = 0; account(8) = 3");
    }

    private static int faultOf(String text) {
        WireBoard board = new WireBoard();
        for (int i = 0; i < text.length(); i++) {
            board.append(text.charAt(i));
        }
        boolean isFaulty = false;
        try {
            board.commands();
        } catch (IllegalArgumentException e) {
            isFaulty = true;
        } catch (UnsupportedOperationException e) {
            isFaulty = false;
        }
        int fault = board.faultPosition();
        Script.check("the exception tells whether there is a fault in " + text, isFaulty == fault >= 0);
        Script.check("the buffer is empty after " + text, board.account(9) == 0);
        return fault;
    }

    private static void eachCharacter() {
        for (String[] beginning : BEGINNINGS) {
            for (String before : new String[] {"", "w000;", "x1;p2@34;"}) {
                String text = before + beginning[0];
                for (int character = 0; character < 1200; character++) {
                    char sign = (char) (character < 1190 ? character : 65535 - (1200 - character));
                    int due = text.length();
                    if (beginning[1].indexOf(sign) >= 0) {
                        due = beginning[2].isEmpty() ? text.length() + 1 : -1;
                    }
                    Script.check("the fault of " + text + " and the character " + (int) sign, faultOf(text + sign) == due);
                }
            }
        }
    }

    private static void faults() {
        String[][] all = {
            {"r", "1"}, {"h", "1"}, {"x", "1"}, {"p", "1"}, {"p0", "2"}, {"p0@", "3"}, {"p0@1", "4"}, {"w", "1"},
            {"w0", "2"}, {"w00", "3"}, {"r0;", "3"}, {"r0;r", "4"}, {"w000;p0@1", "9"}, {"r00", "2"}, {"r0r0", "2"},
            {"p0@123", "5"}, {"w0000", "4"}, {";", "0"}, {";r0", "0"}, {"r0;;r0", "3"}, {"r;r0", "1"}, {"p11", "2"},
            {"p0@;", "3"}, {"w0;", "2"}, {"r-1", "1"}, {"w-100", "1"}, {"R0", "0"}, {"t000", "0"}, {"n", "0"},
            {"r0; r1", "3"}, {"r0 ", "2"}, {" r0", "0"}, {"u", "0"}, {"x0;x0;x0;x0;x0;x0;q", "18"},
        };
        for (String[] one : all) {
            Script.run("the first character that cannot continue a text, or its length: " + one[0],
                    Bounds.faultyText(one[0], Integer.parseInt(one[1])) + Bounds.noReason() + "account(8) = 0");
        }
        Script.run("of the latest call of commands", "faultPosition() = -1; type(\"w0\"); faultPosition() = -1; "
                + Bounds.faulty(2) + "faultPosition() = 2; type(\"w\"); faultPosition() = 2; type(\"000\"); commands() = 1; "
                + "faultPosition() = -1; " + Bounds.faultyText("r", 1) + Bounds.refusedText("r0", 3, 0, 0)
                + Bounds.faultyText("r00", 2) + "net(false); faultPosition() = 2; wall(9, 0, 0) = "
                + "throws UnsupportedOperationException; faultPosition() = 2; undo(); save(); restore(); "
                + "faultPosition() = 2; " + Bounds.carriedOut("w001", 1));
    }

    private static void emptyAfterwards() {
        Script.run("the buffer is empty afterwards, also if an exception is thrown", "type(\"w000;w001\"); commands() = 2; "
                + "account(9) = 0; append('w') = 1; append('0') = 2; " + Bounds.faulty(2) + "append('w') = 1; "
                + "append('0') = 2; append('0') = 3; append('0') = 4; " + "commands() = throws UnsupportedOperationException; "
                + Bounds.reason(5, -1, 0)
                + "append('w') = 1");
        Script.run("it is as full as before after other calls", "type(\"w000\"); net(false); save(); undo(); restore(); "
                + "wall(9, 9, 9) = throws UnsupportedOperationException; line(0, 0) = 8; account(9) = 4; commands() = 1; "
                + "at(0, 0, 0) = -2");
    }

    private static void noneIsCarriedOut() {
        String routed = "net(false); " + Bounds.pins(0, 0, 2);
        Script.run("none with a fault", routed + Bounds.faultyText("r0;w550;w5", 10) + "netOf(0, 2) = 0; account(3) = 0; "
                + "account(8) = 3; " + Bounds.noReason());
        Script.run("a fault comes before a command that is refused", routed + Bounds.faultyText("r9;x", 4) + Bounds.noReason()
                + Bounds.faultyText("w990;w00", 8) + Bounds.noReason());
        Script.run("none if the first is refused", routed + Bounds.refusedText("x0;r0;w550", 11, 0, 0)
                + "netOf(0, 2) = 0; account(3) = 0; account(8) = 3");
        Script.run("none if the last is refused", routed + Bounds.refusedText("r0;w550;p0@55", 4, 0, 2)
                + "netOf(0, 2) = 0; netOf(0, 1) = 2; account(3) = 0; at(5, 5, 0) = -1; account(8) = 3; undo() = 2");
        Script.run("none if one between is refused", routed + Bounds.refusedText("r0;x0;x0;w550", 11, 0, 2)
                + "netOf(0, 2) = 0; netOf(0, 6) = 0; account(7) = 0; account(3) = 0; account(8) = 3");
        Script.run("nets that a hard way ripped come back if a later command is refused", "net(false); net(false); "
                + Bounds.pins(0, 20, 27) + Bounds.pins(1, 15, 35) + Bounds.walls(211, 221, 231, 241, 251, 261) + "route(0) = 7; "
                + Bounds.refusedText("h1;x1;x1", 11, 1, 2) + "netOf(0, 2) = 1; netOf(0, 6) = 0; netOf(1, 6) = 0; "
                + "at(2, 5, 0) = 0; account(8) = 8; " + Bounds.carriedOut("h1;x1", 2) + "netOf(0, 6) = 1; netOf(1, 6) = 1; "
                + "at(2, 5, 0) = -1; undo() = 7; at(2, 5, 0) = 0; netOf(0, 3) = 7");
    }

    private static void numbers() {
        Script.run("all numbers have one digit: nets", Bounds.SIX_NETS + Bounds.refusedText("r5", 8, 0, 0)
                + Bounds.refusedText("r6", 3, 6, 0) + Bounds.refusedText("h6", 3, 6, 0) + Bounds.refusedText("x6", 3, 6, 0)
                + Bounds.refusedText("p6@00", 3, 6, 0) + Bounds.refusedText("r9", 3, 9, 0) + Bounds.refusedText("h9", 3, 9, 0)
                + Bounds.refusedText("x9", 3, 9, 0) + Bounds.refusedText("p9@99", 3, 9, 0) + Bounds.refusedText("x5", 11, 5, 0)
                + Bounds.carriedOut("p5@00", 1) + "netOf(5, 1) = 1");
        Script.run("all numbers have one digit: rows and columns", "net(false); " + Bounds.refusedText("p0@60", 1, 0, 0)
                + Bounds.refusedText("p0@08", 1, 0, 0) + Bounds.refusedText("p0@99", 1, 0, 0) + Bounds.carriedOut("p0@57", 1)
                + "pinOf(0, 0) = 47; " + Bounds.refusedText("w600", 1, 0, 0) + Bounds.refusedText("w900", 1, 0, 0)
                + Bounds.refusedText("w080", 1, 0, 0) + Bounds.refusedText("w090", 1, 0, 0) + Bounds.refusedText("w002", 1, 0, 0)
                + Bounds.refusedText("w009", 1, 0, 0) + Bounds.carriedOut("w560;w071;w501", 3) + "at(5, 6, 0) = -2; "
                + "at(0, 7, 1) = -2; at(5, 0, 1) = -2; account(3) = 3");
    }

    /** The text does on one board what the calls do on another. */
    private static void same(String setup, String text, int count, String calls) {
        WireBoard byText = new WireBoard();
        WireBoard byCalls = new WireBoard();
        Script.runOn(byText, "setup of " + text, setup + Bounds.carriedOut(text, count));
        Script.runOn(byCalls, "calls of " + text, setup + calls);
        String what = "the commands are carried out as the methods would: " + text;
        Script.check(what, View.ofBoard(byText).equals(View.ofBoard(byCalls)));
    }

    private static void asTheMethods() {
        String setup = "net(false); net(true); net(false); " + Bounds.pins(0, 20, 27) + Bounds.pins(1, 5, 55)
                + Bounds.pins(2, 10, 32) + Bounds.walls(211, 221, 231, 241, 251, 261);
        same(setup, "r0", 1, "route(0) = 7");
        same(setup, "r0;x0", 2, "route(0); rip(0) = 6");
        same(setup, "r0;h1", 2, "route(0); hard(1) = 1");
        same(setup, "r0;h1;h0", 3, "route(0); hard(1) = 1; hard(0) = 0");
        same(setup, "h2", 1, "hard(2) = 0");
        same(setup, "p2@57", 1, "pin(2, 5, 7) = 2");
        same(setup, "w000", 1, "wall(0, 0, 0) = 7");
        same(setup, "w000;w571;r1;p2@37", 4, "wall(0, 0, 0); wall(5, 7, 1); route(1); pin(2, 3, 7) = 2");
        same(setup, "r2;h1;x1;r1;x2;w001;r0", 7, "route(2); hard(1); rip(1); route(1); rip(2); wall(0, 0, 1); "
                + "hard(0) = 0");
    }

    private static void indexOfTheCommand() {
        for (int index = 0; index < 20; index++) {
            String text = "r0;x0;".repeat(10).substring(0, 3 * index) + "x9";
            Script.run("the index of the command, from 0", "net(false); " + Bounds.pins(0, 0, 2)
                    + Bounds.refusedText(text, 3, 9, index) + "netOf(0, 6) = 0; netOf(0, 2) = 0; account(8) = 3; "
                    + Bounds.refused("rip(0)", 11, 0));
        }
    }
}
