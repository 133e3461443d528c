/**
 * "A call that throws an exception leaves the state unchanged, unless stated otherwise": two boards come to the same
 * state, one of them makes the call, and both must show the same then, and at each step back, and after restore.
 */
public final class RefusedTest {
    /** Six nets, two of them routed, one with a hole; net 3 has a pin that is walled in, net 4 four pins. */
    private static final String BOARD = "net(false); net(true); net(false); net(false); net(false); net(false); "
            + Bounds.pins(0, 0, 3) + Bounds.pins(1, 16, 36) + Bounds.pins(2, 10, 54) + Bounds.pins(3, 5, 7)
            + Bounds.pins(4, 22, 23, 32, 33) + Bounds.pins(5, 56) + Bounds.walls(60, 61, 170, 171, 441)
            + "route(0) = 3; route(1) = 2; ";
    /** Beside it a snapshot, eight changes, a text, a fault position, a reason and a line. */
    private static final String FULL = BOARD + "save() = 6; rip(0) = 2; wall(0, 1, 1) = 6; route(2) = 11; rip(2) = 8; "
            + "hard(0) = 0; tearDown(0, 1, 1) = 5; " + Bounds.carriedOut("w400;r2", 2) + "hard(5) = throws "
            + "UnsupportedOperationException; wall(4, 1, 1) = 7; wall(4, 1, 0) = 8; undo() = 7; account(8) = 7; "
            + "wall(3, 0, 0) = 8; account(8) = 8; " + Bounds.faultyText("r0;p", 4) + "type(\"w0\"); line(5, 0) = 9; ";

    public static void main(String[] args) {
        changes();
        pins();
        ways();
        questions();
        questionsAboutWays();
        emptyBoard();
        fullBuffer();
        texts();
        holes();
        Script.finish();
    }

    private static void refused(String call, int reason, int detail) {
        unchanged(FULL, call, call + " = throws UnsupportedOperationException; ", Bounds.reason(reason, detail, 0));
    }

    private static void thrown(String setup, String call, String exception) {
        unchanged(setup, call, call + " = throws " + exception + "; ", "");
    }

    /** Where no reason is due, it must stay what it was. */
    private static void unchanged(String setup, String name, String call, String reason) {
        WireBoard twin = ready(setup);
        WireBoard board = ready(setup);
        Script.runOn(board, "unchanged by " + name, call + reason);
        Script.check("the texts and the line after " + name, View.ofTexts(board).equals(View.ofTexts(twin)));
        if (reason.isEmpty()) {
            Script.check("the reason after " + name, View.ofReason(board).equals(View.ofReason(twin)));
        }
        sameBack(name, board, twin);
    }

    private static WireBoard ready(String setup) {
        WireBoard board = new WireBoard();
        Script.runOn(board, "setup", setup);
        return board;
    }

    private static String undo(WireBoard board) {
        try {
            return "" + board.undo();
        } catch (IllegalStateException e) {
            return "none";
        }
    }

    private static String restore(WireBoard board) {
        try {
            return "" + board.restore();
        } catch (IllegalStateException e) {
            return "none";
        }
    }

    private static void sameBack(String name, WireBoard board, WireBoard twin) {
        Script.check("the board after " + name, View.ofBoard(board).equals(View.ofBoard(twin)));
        for (int i = 0; i < 9; i++) {
            Script.check("undo after " + name, board.account(8) == twin.account(8) && undo(board).equals(undo(twin)));
            Script.check("what undo brings after " + name, View.ofBoard(board).equals(View.ofBoard(twin)));
        }
        Script.check("restore after " + name, restore(board).equals(restore(twin)));
        Script.check("what restore brings after " + name, View.ofBoard(board).equals(View.ofBoard(twin)));
    }

    private static void changes() {
        refused("net(false)", 2, 6);
        refused("net(true)", 2, 6);
        refused("wall(6, 0, 0)", 1, 0);
        refused("wall(0, 6, 0)", 5, -1);
        refused("wall(0, 1, 0)", 5, 0);
        refused("wall(5, 4, 1)", 5, 2);
        refused("tearDown(0, 0, 2)", 1, 0);
        refused("tearDown(4, 7, 0)", 7, 0);
        refused("tearDown(0, 0, 0)", 7, 0);
        refused("rip(6)", 3, 6);
        refused("rip(-1)", 3, -1);
        refused("rip(3)", 11, 3);
    }

    private static void pins() {
        refused("pin(6, 0, 0)", 3, 6);
        refused("pin(-1, 9, 9)", 3, -1);
        refused("pin(5, 6, 0)", 1, 0);
        refused("pin(5, 0, 8)", 1, 0);
        refused("pin(0, 3, 0)", 4, 0);
        refused("pin(4, 4, 7)", 2, 4);
        refused("pin(5, 2, 2)", 5, 4);
        refused("pin(5, 0, 6)", 5, -1);
        refused("pin(5, 0, 1)", 5, 0);
        refused("pin(5, 5, 6)", 5, 5);
        refused("pin(5, 1, 5)", 6, 1);
        refused("pin(5, 2, 5)", 6, 1);
    }

    private static void ways() {
        refused("route(6)", 3, 6);
        refused("hard(-1)", 3, -1);
        refused("route(0)", 4, 0);
        refused("hard(1)", 4, 1);
        refused("route(5)", 8, 1);
        refused("hard(5)", 8, 1);
        refused("route(3)", 9, 1);
        refused("hard(3)", 9, 1);
    }

    private static void questions() {
        String index = "IndexOutOfBoundsException";
        for (String call : new String[] {"netOf(6, 0)", "pinOf(5, 1)", "pinOf(6, 0)", "at(6, 0, 0)", "isHole(0, 8)",
            "price(6, 0, 0, 0)", "price(0, 0, 0, 2)", "cellsOf(6)", "cellsAgain(-1)", "touches(6)", "line(6, 0)",
            "line(0, 2)", "line(-1, 0)", "character(9)", "character(-1)"}) {
            thrown(FULL, call, index);
        }
        thrown(FULL, "netOf(0, 7)", "IllegalArgumentException");
        thrown(FULL, "ranked(6)", "NoSuchElementException");
        thrown(FULL, "reason(3)", "IllegalArgumentException");
        thrown(FULL, "account(10)", "IllegalArgumentException");
    }

    private static void questionsAboutWays() {
        for (String call : new String[] {"wouldCost(", "wouldRip("}) {
            thrown(FULL, call + "6)", "IndexOutOfBoundsException");
            thrown(FULL, call + "0)", "NoSuchElementException");
            thrown(FULL, call + "5)", "NoSuchElementException");
            thrown(FULL, call + "3)", "NoSuchElementException");
        }
        thrown(FULL, "reach(5, 1)", "IndexOutOfBoundsException");
    }

    private static void emptyBoard() {
        thrown("", "undo()", "IllegalStateException");
        thrown("", "restore()", "IllegalStateException");
        thrown(BOARD, "restore()", "IllegalStateException");
        thrown("save(); net(true); undo(); type(\"w\");", "undo()", "IllegalStateException");
        thrown("net(true);", "meanCost()", "ArithmeticException");
        thrown("net(true);", "reason(0)", "NoSuchElementException");
        thrown("net(true);", "ranked(1)", "NoSuchElementException");
        thrown("net(true);", "character(0)", "IndexOutOfBoundsException");
    }

    private static void fullBuffer() {
        String full = "net(false); " + Bounds.pins(0, 0, 3) + "type(\"" + "r0;x0;".repeat(9) + "r0;x0;\"); ";
        thrown(full, "append('r')", "IllegalStateException");
        thrown(full, "append(';')", "IllegalStateException");
    }

    /** The buffer is empty then, and the fault position another one; all else is as it was. */
    private static void texts() {
        String setup = FULL.replace("type(\"w0\"); ", "");
        for (String call : new String[] {Bounds.faultyText("w200;r", 6), Bounds.faultyText("", 0),
            Bounds.faultyText("w200;r9;", 8), Bounds.refusedText("w600", 1, 0, 0),
            Bounds.refusedText("w200;x2;r2;p5@70", 1, 0, 3), Bounds.refusedText("x0;x2;w110;h3", 9, 1, 3),
            Bounds.refusedText("x0;x0", 11, 0, 1), Bounds.refusedText("p5@43;p5@25", 6, 1, 1)}) {
            WireBoard twin = ready(setup);
            WireBoard board = ready(setup);
            Script.runOn(board, "a text that is not carried out", call);
            Script.check("the line after " + call, View.ofLine(board).equals(View.ofLine(twin)));
            sameBack(call, board, twin);
        }
    }

    /** Ten holes are there, so that a way with three more is refused. */
    private static void holes() {
        String setup = Bounds.tenHoles() + "pin(5, 4, 7) = 1; save(); wall(0, 7, 0); line(0, 0) = 10; ";
        for (String call : new String[] {"route(5)", "hard(5)"}) {
            unchanged(setup, call, call + " = throws UnsupportedOperationException; ",
                    Bounds.reason(10, 13, 0));
        }
    }
}
