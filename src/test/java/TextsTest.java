/** Promises 23 to 28: the text buffer, commands, the fault position, reasons, the line and its characters. */
public final class TextsTest {
    private static final String INDEX = "throws IndexOutOfBoundsException; ";
    private static final String ARGUMENT = "throws IllegalArgumentException; ";
    private static final String ELEMENT = "throws NoSuchElementException; ";
    private static final String UNSUPPORTED = "throws UnsupportedOperationException; ";
    private static final String TEN = "w000;w001;";

    public static void main(String[] args) {
        append();
        commands();
        allOrNone();
        faultPosition();
        reason();
        line();
        character();
        Script.finish();
    }

    private static void append() {
        Script.run("promise 23", "append('r') = 1; append('0') = 2; account(9) = 2; append(' ') = 3; append(0) = 4; "
                + "append(255) = 5; append(65535) = 6; account(8) = 0; commands() = " + ARGUMENT + "account(9) = 0; "
                + "append('x') = 1");
        Script.run("promise 23, a full buffer", "type(\"" + TEN.repeat(5) + "w010;w011\"); account(9) = 59; "
                + "append(';') = 60; append('r') = throws IllegalStateException; account(9) = 60; commands() = "
                + ARGUMENT + "faultPosition() = 60; account(9) = 0; append('r') = 1");
    }

    private static void commands() {
        Script.run("promise 24", "net(false); net(false); type(\"p0@11;p0@14;r0\"); commands() = 3; netOf(0, 3) = 3; "
                + "pinOf(0, 0) = 9; pinOf(0, 1) = 12; account(8) = 3; account(9) = 0; faultPosition() = -1; "
                + "type(\"x0\"); commands() = 1; netOf(0, 6) = 1; netOf(0, 2) = 0; type(\"w121;w571;h0\"); "
                + "commands() = 3; at(1, 2, 1) = -2; at(5, 7, 1) = -2; netOf(0, 2) = 1; account(3) = 2; "
                + "account(8) = 5; undo() = 4; account(3) = 0; netOf(0, 2) = 0; netOf(0, 6) = 1; undo() = 3; "
                + "netOf(0, 2) = 1; netOf(0, 6) = 0; undo() = 2; netOf(0, 1) = 0");
        Script.run("promise 24, the hard way", "net(false); net(false); "
                + "type(\"p0@03;p0@53;p1@20;p1@27;w130;w230;w330\"); commands() = 7; type(\"w430;r0;h1\"); "
                + "commands() = 3; netOf(0, 6) = 1; netOf(1, 2) = 1; "
                + "account(8) = 4; type(\"x1;r0;r1\"); commands() = " + UNSUPPORTED + "reason(0) = 9; reason(1) = 1; "
                + "reason(2) = 2; netOf(1, 2) = 1; netOf(1, 6) = 0");
        Script.run("promise 24, twenty commands", "net(false); pin(0, 0, 0); pin(0, 0, 2); type(\""
                + "r0;x0;".repeat(9) + "r0;x0\"); account(9) = 59; commands() = 20; netOf(0, 6) = 10; account(8) = 4; "
                + "undo() = 3; netOf(0, 6) = 0");
    }

    private static void allOrNone() {
        Script.run("promise 24, a command is refused", "net(false); type(\"p0@00;w110;p0@90\"); commands() = "
                + UNSUPPORTED + "reason(0) = 1; reason(1) = 0; reason(2) = 2; netOf(0, 1) = 0; account(3) = 0; "
                + "at(0, 0, 0) = -1; at(1, 1, 0) = -1; account(8) = 1; account(9) = 0; faultPosition() = -1; "
                + "undo() = 0; account(0) = 0");
        Script.run("promise 24, a refused text costs no change that can be undone", "net(false); pin(0, 0, 0); "
                + "pin(0, 0, 2); route(0); rip(0); route(0); rip(0); route(0); rip(0) = 1; account(8) = 8; "
                + "type(\"r0;r0\"); commands() = " + UNSUPPORTED + "reason(0) = 4; reason(2) = 1; account(8) = 8; "
                + "netOf(0, 2) = 0; undo() = 7; undo() = 6; undo() = 5; undo() = 4; undo() = 3; undo() = 2; "
                + "undo() = 1; netOf(0, 1) = 1; undo() = 0; netOf(0, 1) = 0; undo() = throws IllegalStateException");
        Script.run("promise 24, each command can be refused", "type(\"p0@00\"); commands() = " + UNSUPPORTED
                + "reason(0) = 3; type(\"w600\"); commands() = " + UNSUPPORTED + "reason(0) = 1; type(\"w080\"); "
                + "commands() = " + UNSUPPORTED + "reason(0) = 1; type(\"w002\"); commands() = " + UNSUPPORTED
                + "reason(0) = 1; type(\"x9\"); commands() = " + UNSUPPORTED + "reason(0) = 3; reason(1) = 9; "
                + "type(\"w000;w000\"); commands() = " + UNSUPPORTED + "reason(0) = 5; reason(1) = -1; "
                + "reason(2) = 1; at(0, 0, 0) = -1; wall(9, 9, 9) = " + UNSUPPORTED + "reason(2) = 0");
    }

    private static String fault(String text, int position) {
        return "type(\"" + text + "\"); commands() = " + ARGUMENT + "faultPosition() = " + position + "; "
                + "account(9) = 0; ";
    }

    private static void faultPosition() {
        Script.run("promise 25", "faultPosition() = -1; commands() = " + ARGUMENT + "faultPosition() = 0; "
                + fault("r", 1) + fault("x", 1) + fault("h", 1) + fault("p", 1) + fault("w", 1) + fault(";", 0)
                + fault("a", 0) + fault("R0", 0) + fault("0", 0) + fault("r;", 1) + fault("r/", 1) + fault("r:", 1)
                + fault("r01", 2) + fault("r0;", 3) + fault("r0;;", 3) + fault("r0 ;r1", 2) + fault(" r0", 0)
                + fault("p0", 2) + fault("p0@", 3) + fault("p0@1", 4) + fault("p011", 2) + fault("p0@@", 3)
                + fault("p0@1x", 4) + fault("p0@123", 5) + fault("p@11", 1) + fault("w0", 2) + fault("w00", 3)
                + fault("w00;", 3) + fault("w0000", 4) + fault("w0@0", 2) + fault("w000;p0@11;h0;x1;y", 17)
                + fault("w000;p0@11;h0;x1;r", 18) + "reason(0) = " + ELEMENT + "account(3) = 0; account(8) = 0");
        Script.run("promise 25, the text of the latest call", "type(\"w0\"); commands() = " + ARGUMENT
                + "faultPosition() = 2; type(\"w000\"); faultPosition() = 2; commands() = 1; faultPosition() = -1; "
                + "type(\"q\"); commands() = " + ARGUMENT + "faultPosition() = 0; undo() = 0; faultPosition() = 0; "
                + "type(\"r0\"); commands() = " + UNSUPPORTED + "faultPosition() = -1");
    }

    private static void reason() {
        Script.run("promise 26", "reason(-1) = " + ARGUMENT + "reason(3) = " + ARGUMENT + "reason(0) = " + ELEMENT
                + "reason(1) = " + ELEMENT + "reason(2) = " + ELEMENT + "route(4) = " + UNSUPPORTED + "reason(0) = 3; "
                + "reason(1) = 4; reason(2) = 0; reason(3) = " + ARGUMENT + "reason(-1) = " + ARGUMENT
                + "net(false) = 0; reason(0) = 3; undo() = 0; reason(1) = 4; save(); restore(); reason(0) = 3; "
                + "type(\"w000;x5\"); commands() = " + UNSUPPORTED + "reason(0) = 3; reason(1) = 5; reason(2) = 1; "
                + "tearDown(0, 0, 0) = " + UNSUPPORTED + "reason(0) = 7; reason(1) = 0; reason(2) = 0");
    }

    private static void line() {
        Script.run("promise 27", "net(false); net(true); net(false); net(false); net(false); net(false); "
                + "pin(0, 0, 0); pin(0, 5, 7); route(0) = 15; pin(2, 3, 1); pin(3, 3, 2); pin(4, 3, 3); pin(5, 3, 4); "
                + "pin(1, 3, 7) = 0; wall(3, 5, 0); wall(2, 5, 1); line(3, 0) = 8; shows(3, 0) = \".CDEF#.B\"; "
                + "shows(3, 1) = \"aCDEF..B\"; shows(2, 1) = \"a....#..\"; line(5, 0) = 9; "
                + "shows(5, 0) = \"aoaaaaaaA\"; line(5, 1) = 9; shows(5, 1) = \"ao......A\"; line(4, 0) = 8; "
                + "line(-1, 0) = " + INDEX + "line(6, 0) = " + INDEX + "line(0, -1) = " + INDEX + "line(0, 2) = "
                + INDEX + "character(0) = '.'");
        Script.run("promise 27, the line stays", "net(false); pin(0, 1, 1); line(1, 0) = 8; undo(); "
                + "character(1) = 'A'; wall(1, 2, 0); character(2) = '.'; line(1, 0) = 8; character(1) = '.'; "
                + "character(2) = '#'; "
                + "save(); tearDown(1, 2, 0); restore(); character(2) = '#'");
    }

    private static void character() {
        Script.run("promise 28", "character(0) = " + INDEX + "character(-1) = " + INDEX + "line(0, 0) = 8; "
                + "character(0) = '.'; character(7) = '.'; character(8) = " + INDEX + "character(-1) = " + INDEX
                + "character(2147483647) = " + INDEX + "character(-2147483648) = " + INDEX);
        Script.run("promise 28, a shorter line after a longer one", "net(false); pin(0, 0, 0); pin(0, 5, 7); route(0); "
                + "line(5, 0) = 9; character(1) = 'o'; character(8) = 'A'; line(0, 0) = 8; character(8) = " + INDEX
                + "character(7) = '.'");
    }
}
