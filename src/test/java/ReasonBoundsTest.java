/** Each reason with its detail and index, which of several is the first, and what keeps or leaves the reason. */
public final class ReasonBoundsTest {
    private static final String ROUTED = "net(false); net(false); net(true); " + Bounds.pins(0, 20, 25) + "route(0) = 5; ";

    public static void main(String[] args) {
        noReason();
        eachReason();
        firstOfTwo();
        notFree();
        layersOfTwo();
        noWay();
        holes();
        isKept();
        indexes();
        exceptions();
        Script.finish();
    }

    private static void noReason() {
        Script.run("nothing was refused", Bounds.noReason() + "net(false); pin(0, 0, 0); " + Bounds.index("at(6, 0, 0)")
                + Bounds.element("wouldCost(0)") + Bounds.faultyText("r", 1) + Bounds.state("restore()") + Bounds.noReason()
                + "undo(); undo(); " + Bounds.state("undo()") + Bounds.noReason());
        Script.run("what is not from 0 to 2", Bounds.argument("reason(-1)") + Bounds.argument("reason(3)")
                + Bounds.argument("reason(-2147483648)") + Bounds.argument("reason(2147483647)") + Bounds.noReason()
                + Bounds.refused("route(0)", 3, 0) + Bounds.argument("reason(-1)") + Bounds.argument("reason(3)")
                + Bounds.reason(3, 0, 0));
    }

    private static void eachReason() {
        Script.run("1, a number is out of range: the detail is 0", ROUTED + Bounds.refused("wall(7, 7, 7)", 1, 0)
                + Bounds.refused("pin(1, 9, 0)", 1, 0) + Bounds.refused("tearDown(0, 0, -5)", 1, 0));
        Script.run("2, there would be more than there can be: how many there can be", Bounds.SIX_NETS
                + Bounds.refused("net(true)", 2, 6) + Bounds.pins(0, 0, 2, 4, 6) + Bounds.refused("pin(0, 1, 1)", 2, 4));
        Script.run("3, there is no such net: its number", ROUTED + Bounds.refused("route(3)", 3, 3)
                + Bounds.refused("hard(-3)", 3, -3) + Bounds.refused("rip(99)", 3, 99)
                + Bounds.refused("pin(-2147483648, 0, 0)", 3, Integer.MIN_VALUE));
        Script.run("4, the net is routed: the net", ROUTED + Bounds.refused("route(0)", 4, 0) + Bounds.refused("hard(0)", 4, 0)
                + Bounds.refused("pin(0, 5, 5)", 4, 0) + Bounds.pins(1, 40, 45) + "route(1) = 5; "
                + Bounds.refused("route(1)", 4, 1) + Bounds.refused("pin(1, 5, 5)", 4, 1) + "rip(1) = 4; pin(1, 5, 5) = 2");
        Script.run("5, a cell is not free: the net in it", ROUTED + Bounds.refused("wall(2, 2, 0)", 5, 0)
                + "pin(1, 5, 5); " + Bounds.refused("wall(5, 5, 1)", 5, 1) + Bounds.refused("pin(2, 2, 2)", 5, 0));
        Script.run("6, a cell is too near a net", ROUTED + Bounds.refused("pin(2, 3, 2)", 6, 0)
                + Bounds.refused("pin(2, 2, 6)", 6, 0) + "pin(2, 4, 2) = 0; " + Bounds.refused("pin(1, 5, 2)", 6, 2));
        Script.run("7, there is no wall in the cell: the detail is 0", ROUTED + Bounds.refused("tearDown(2, 2, 0)", 7, 0)
                + Bounds.refused("tearDown(2, 0, 1)", 7, 0) + Bounds.refused("tearDown(5, 5, 1)", 7, 0));
        Script.run("8, the net has fewer than 2 pins: how many", ROUTED + Bounds.refused("route(1)", 8, 0)
                + Bounds.refused("hard(1)", 8, 0) + "pin(1, 5, 5); " + Bounds.refused("route(1)", 8, 1)
                + Bounds.refused("hard(1)", 8, 1) + "pin(1, 5, 6); route(1) = 1");
        Script.run("11, the net is not routed: the net", ROUTED + Bounds.refused("rip(1)", 11, 1) + Bounds.refused("rip(2)", 11,
                2) + "rip(0) = 4; " + Bounds.refused("rip(0)", 11, 0));
    }

    private static void firstOfTwo() {
        Script.run("pin: no such net before a number out of range", "net(false); " + Bounds.refused("pin(1, 6, 8)", 3, 1)
                + Bounds.refused("pin(-1, -1, -1)", 3, -1) + Bounds.refused("pin(0, 6, 8)", 1, 0));
        Script.run("pin: a number out of range before a net that is routed", ROUTED + Bounds.refused("pin(0, 2, 8)", 1, 0)
                + Bounds.refused("pin(0, -1, 2)", 1, 0) + Bounds.refused("pin(0, 2, 2)", 4, 0));
        String four = "net(false); net(true); " + Bounds.pins(0, 0, 2, 4, 6);
        Script.run("pin: a number out of range before more pins than there can be", four
                + Bounds.refused("pin(0, 6, 0)", 1, 0) + Bounds.refused("pin(0, 0, -1)", 1, 0)
                + Bounds.refused("pin(0, 5, 0)", 2, 4));
        Script.run("pin: a net that is routed before more pins than there can be", four + "route(0) = 6; "
                + Bounds.refused("pin(0, 5, 0)", 4, 0) + Bounds.refused("pin(0, 0, 0)", 4, 0));
        Script.run("pin: more pins than there can be before a cell that is not free", four
                + Bounds.refused("pin(0, 0, 0)", 2, 4) + "wall(5, 5, 0); " + Bounds.refused("pin(0, 5, 5)", 2, 4));
        Script.run("pin: more pins than there can be before a cell that is too near", four + "pin(1, 3, 3); "
                + Bounds.refused("pin(0, 3, 4)", 2, 4) + Bounds.refused("pin(0, 3, 3)", 2, 4));
        Script.run("pin: a net that is routed before a cell that is not free or too near", ROUTED + "pin(2, 5, 5); "
                + Bounds.refused("pin(0, 5, 5)", 4, 0) + Bounds.refused("pin(0, 5, 4)", 4, 0));
        Script.run("pin: a cell that is not free before one that is too near", "net(true); net(false); "
                + Bounds.pins(0, 22, 23) + Bounds.refused("pin(1, 2, 2)", 5, 0) + Bounds.refused("pin(1, 2, 3)", 5, 0)
                + Bounds.refused("pin(1, 2, 4)", 6, 0) + "wall(2, 4, 1); " + Bounds.refused("pin(1, 2, 4)", 5, -1)
                + "wall(2, 4, 0); " + Bounds.refused("pin(1, 2, 4)", 5, -1));
        Script.run("wall: a number out of range before a cell that is not free", "wall(0, 0, 0); wall(1, 0, 0); "
                + Bounds.refused("wall(0, 8, 0)", 1, 0) + Bounds.refused("wall(1, 0, -1)", 1, 0));
        Script.run("netOf: no such net before a wrong what", "net(false); " + Bounds.index("netOf(1, 7)")
                + Bounds.index("netOf(-1, -1)") + Bounds.argument("netOf(0, 7)") + Bounds.argument("netOf(0, -1)"));
        Script.run("reason: a wrong what before nothing that was refused", Bounds.argument("reason(3)")
                + Bounds.argument("reason(-1)") + Bounds.element("reason(2)"));
    }

    private static void notFree() {
        Script.run("the net in the cell, or -1 for a wall", Bounds.SIX_NETS + "pin(5, 5, 7); pin(0, 0, 0); wall(3, 3, 1); "
                + Bounds.refused("wall(5, 7, 0)", 5, 5) + Bounds.refused("wall(5, 7, 1)", 5, 5)
                + Bounds.refused("wall(0, 0, 0)", 5, 0) + Bounds.refused("wall(3, 3, 1)", 5, -1)
                + Bounds.refused("pin(1, 5, 7)", 5, 5) + Bounds.refused("pin(5, 0, 0)", 5, 0)
                + Bounds.refused("pin(5, 3, 3)", 5, -1) + "wall(3, 3, 0) = 2");
    }

    /** Net 0 lies over the place (2, 3) on the layer 0, and net 1 on the layer 1. */
    private static void layersOfTwo() {
        String crossed = "net(false); net(false); net(false); " + Bounds.pins(0, 20, 25) + Bounds.pins(1, 3, 53)
                + "route(0) = 5; route(1) = 5; ";
        Script.run("of two nets, that on the layer 0 first", crossed + Bounds.refused("pin(2, 2, 3)", 5, 0)
                + "rip(0); " + Bounds.refused("pin(2, 2, 3)", 5, 1) + "rip(1); pin(2, 2, 3) = 0");
        Script.run("of two nets, that on the layer 0 first, if it is the higher one, too", "net(false); net(false); "
                + "net(false); " + Bounds.pins(1, 20, 25) + Bounds.pins(0, 3, 53) + "route(0) = 5; route(1) = 5; "
                + Bounds.refused("pin(2, 2, 3)", 5, 1) + "rip(1); " + Bounds.refused("pin(2, 2, 3)", 5, 0));
        Script.run("a wall on the layer 0 before a net on the layer 1", crossed + "wall(1, 3, 0); "
                + Bounds.refused("pin(2, 1, 3)", 5, -1) + "tearDown(1, 3, 0); " + Bounds.refused("pin(2, 1, 3)", 5, 1));
        Script.run("a net on the layer 0 before a wall on the layer 1", crossed + "wall(2, 2, 1); "
                + Bounds.refused("pin(2, 2, 2)", 5, 0) + "rip(0); " + Bounds.refused("pin(2, 2, 2)", 5, -1));
    }

    private static void noWay() {
        Script.run("9, there is no way to a pin: its number", "net(false); " + Bounds.pins(0, 30, 0) + Bounds.walls(10, 11, 100,
                101) + Bounds.refused("route(0)", 9, 1) + Bounds.refused("hard(0)", 9, 1) + "pin(0, 5, 7) = 2; "
                + Bounds.refused("route(0)", 9, 1) + Bounds.walls(470, 471, 560, 561) + Bounds.refused("hard(0)", 9, 1)
                + "tearDown(1, 0, 1); " + Bounds.refused("route(0)", 9, 2) + "pin(0, 3, 3) = 3; "
                + Bounds.refused("hard(0)", 9, 2) + "tearDown(4, 7, 1); route(0) = 15");
    }

    private static void holes() {
        Script.run("10, there would not be more than 12 holes", Bounds.tenHoles() + "pin(5, 5, 6) = 1; route(5) = 16; holes() = 12; "
                + "holesAgain() = 12; rip(5) = 7; hard(5) = 0; holes() = 12");
        Script.run("10, there would be more than 12 holes: how many", Bounds.tenHoles() + "pin(5, 4, 7) = 1; "
                + Bounds.refused("route(5)", 10, 13)
                + Bounds.refused("hard(5)", 10, 13) + "wouldCost(5) = 22; wouldRip(5) = 0; holes() = 10; netOf(5, 2) = 0; "
                + "rip(0); route(5) = 22; holes() = 11; " + Bounds.refused("route(0)", 10, 13) + "wouldCost(0) = 16; "
                + Bounds.refused("hard(0)", 10, 13) + "rip(5); route(0) = 16; holes() = 10");
    }

    private static void isKept() {
        Script.run("a reason is kept until another one comes", ROUTED + Bounds.refused("route(3)", 3, 3) + "pin(1, 5, 5) = 0; "
                + "rip(0) = 4; undo(); undo(); save(); restore(); line(0, 0) = 8; wouldCost(0) = throws NoSuchElementException; "
                + Bounds.index("at(0, 0, 2)") + Bounds.argument("account(10)") + Bounds.faultyText("r0;r", 4)
                + Bounds.reason(3, 3, 0) + Bounds.carriedOut("w000", 1) + Bounds.reason(3, 3, 0)
                + Bounds.refused("route(0)", 4, 0) + Bounds.refused("tearDown(5, 5, 0)", 7, 0));
        Script.run("undo and restore do not take a reason back", "save(); net(false); " + Bounds.refused("rip(0)", 11, 0)
                + "undo() = 0; " + Bounds.reason(11, 0, 0) + "restore() = 0; " + Bounds.reason(11, 0, 0)
                + Bounds.refused("rip(0)", 3, 0));
    }

    private static void indexes() {
        Script.run("the index of the command of a text, from 0, or 0 for another call", ROUTED
                + Bounds.refusedText("w000;w001;w000", 5, -1, 2) + Bounds.refused("wall(2, 0, 0)", 5, 0)
                + Bounds.refusedText("r0", 4, 0, 0) + Bounds.refusedText("x0;r0;r0", 4, 0, 2)
                + "net(true); net(true); net(true); " + Bounds.refused("net(true)", 2, 6) + Bounds.refusedText("w500;x0;x1", 11, 1, 2)
                + "account(3) = 0; " + Bounds.reason(11, 1, 2) + Bounds.carriedOut("w500;x0", 2) + Bounds.reason(11, 1, 2)
                + Bounds.refused("rip(0)", 11, 0));
    }

    private static void exceptions() {
        Script.run("what a question throws keeps no reason", ROUTED + Bounds.refused("tearDown(0, 0, 0)", 7, 0)
                + Bounds.index("netOf(3, 0)") + Bounds.index("wouldCost(3)") + Bounds.element("wouldCost(0)")
                + Bounds.element("wouldRip(1)") + Bounds.index("reach(0, 2)") + Bounds.element("ranked(3)")
                + Bounds.index("line(6, 0)") + Bounds.index("character(0)") + Bounds.state("restore()")
                + Bounds.reason(7, 0, 0));
    }
}
