/** The bounds of the board, of the nets and of their pins: the first, the last, the next beyond, empty and full. */
public final class BoardBoundsTest {
    private static final int[][] OUTSIDE = {
        {-1, 0, 0}, {6, 0, 0}, {0, -1, 0}, {0, 8, 0}, {0, 0, -1}, {0, 0, 2}, {5, 8, 1}, {6, 7, 1}, {5, 7, 2},
        // These would be cells of the board if one row ran over into the next, or one layer into the other.
        {-1, 8, 0}, {1, -8, 0}, {1, -1, 0}, {4, 8, 0}, {6, -8, 0}, {0, 48, 0}, {0, 47, 0}, {6, 0, -1}, {-6, 0, 1},
        // These would be so by the wrap-around of int.
        {536870912, 0, 0}, {-536870912, 0, 0}, {1073741824, 0, 0}, {0, 0, 268435456}, {0, 0, -268435456},
        {Integer.MIN_VALUE, 0, 0}, {Integer.MAX_VALUE, 0, 0}, {0, Integer.MIN_VALUE, 0}, {0, Integer.MAX_VALUE, 0},
        {0, 0, Integer.MIN_VALUE}, {0, 0, Integer.MAX_VALUE},
    };

    public static void main(String[] args) {
        cellsOutside();
        cellsInside();
        placesInside();
        noWalls();
        allWalls();
        sixNets();
        numbersOfNets();
        fourPins();
        numbersOfPins();
        allPins();
        bothCells();
        Script.finish();
    }

    private static void cellsOutside() {
        for (int[] cell : OUTSIDE) {
            String place = cell[0] + ", " + cell[1];
            String all = "(" + place + ", " + cell[2] + ")";
            StringBuilder calls = new StringBuilder("net(false); pin(0, 3, 3); wall(0, 0, 0); wall(1, 7, 0); ");
            calls.append(Bounds.refused("wall" + all, 1, 0)).append(Bounds.refused("tearDown" + all, 1, 0));
            calls.append(Bounds.index("at" + all)).append(Bounds.index("price(0, " + place + ", " + cell[2] + ")"));
            if (cell[0] < 0 || cell[0] > 5 || cell[1] < 0 || cell[1] > 7) {
                calls.append(Bounds.refused("pin(0, " + place + ")", 1, 0)).append(Bounds.index("isHole(" + place + ")"));
            }
            if (cell[0] < 0 || cell[0] > 5 || cell[2] < 0 || cell[2] > 1) {
                calls.append(Bounds.index("line(" + cell[0] + ", " + cell[2] + ")"));
            }
            Script.run("the rows 0 to 5, the columns 0 to 7, the layers 0 and 1: not " + all,
                    calls + "account(3) = 2; account(4) = 92; account(8) = 4");
        }
    }

    private static void cellsInside() {
        for (int cell = 0; cell < 96; cell++) {
            int row = cell / 16;
            int column = cell / 2 % 8;
            int layer = cell % 2;
            String all = "(" + row + ", " + column + ", " + layer + ")";
            String beneath = "(" + row + ", " + column + ", " + (1 - layer) + ")";
            String price = "price(0, " + row + ", " + column + ", " + layer + ")";
            Script.run("in a cell is a wall, or nothing: " + all, "net(false); at" + all + " = -1; " + price + " = 0; "
                    + "wall" + all + " = 1; at" + all + " = -2; at" + beneath + " = -1; " + price + " = -1; account(4) = 95; "
                    + Bounds.refused("wall" + all, 5, -1) + "line(" + row + ", " + layer + ") = 8; character(" + column
                    + ") = '#'; tearDown" + all + " = 0; at" + all + " = -1; account(4) = 96; "
                    + Bounds.refused("tearDown" + all, 7, 0));
        }
    }

    private static void placesInside() {
        for (int place = 0; place < 48; place++) {
            String at = place / 8 + ", " + place % 8;
            Script.run("a pin is at a place, and the net in both cells there: " + at, "net(false); pin(0, " + at
                    + ") = 0; pinOf(0, 0) = " + place + "; at(" + at + ", 0) = 0; at(" + at + ", 1) = 0; account(4) = 94; "
                    + "isHole(" + at + ") = false; reach(0, 0) = 96; cellsOf(0) = 2");
        }
    }

    private static void noWalls() {
        Script.run("an empty board", "account(3) = 0; account(4) = 96; filledShare() = 0.0; reason(3) = "
                + "throws IllegalArgumentException; " + Bounds.refused("tearDown(0, 0, 0)", 7, 0)
                + Bounds.refused("tearDown(5, 7, 1)", 7, 0) + "account(3) = 0; shows(0, 0) = \"........\"; "
                + "shows(5, 1) = \"........\"; holes() = 0; holesAgain() = 0");
    }

    private static void allWalls() {
        StringBuilder calls = new StringBuilder("net(false); ");
        for (int cell = 0; cell < 96; cell++) {
            calls.append("wall(" + cell / 16 + ", " + cell / 2 % 8 + ", " + cell % 2 + ") = " + (cell + 1) + "; ");
        }
        calls.append("account(3) = 96; account(4) = 0; filledShare() = 1.0; ");
        calls.append(Bounds.refused("wall(0, 0, 0)", 5, -1)).append(Bounds.refused("wall(5, 7, 1)", 5, -1));
        calls.append(Bounds.refused("pin(0, 0, 0)", 5, -1)).append(Bounds.refused("pin(0, 5, 7)", 5, -1));
        calls.append("account(3) = 96; shows(5, 1) = \"########\"; tearDown(5, 7, 1) = 95; account(4) = 1; ");
        calls.append("filledShare() = 0.9895833333333334; " + Bounds.refused("pin(0, 5, 7)", 5, -1));
        calls.append("wall(5, 7, 1) = 96; tearDown(5, 7, 0) = 95; " + Bounds.refused("pin(0, 5, 7)", 5, -1));
        calls.append("tearDown(5, 7, 1) = 94; pin(0, 5, 7) = 0; reach(0, 0) = 2; account(4) = 0; ");
        calls.append("filledShare() = 1.0; account(3) = 94; shows(5, 0) = \"#######A\"");
        Script.run("a board full of walls", calls.toString());
    }

    private static void sixNets() {
        Script.run("at most 6 nets, numbered from 0, each wide or not", "account(0) = 0; net(true) = 0; net(false) = 1; "
                + "net(false) = 2; net(true) = 3; net(false) = 4; account(0) = 5; " + Bounds.index("netOf(5, 0)")
                + "net(true) = 5; account(0) = 6; netOf(0, 0) = 1; netOf(1, 0) = 0; netOf(2, 0) = 0; netOf(3, 0) = 1; "
                + "netOf(4, 0) = 0; netOf(5, 0) = 1; " + Bounds.refused("net(false)", 2, 6)
                + Bounds.refused("net(true)", 2, 6) + "account(0) = 6; account(8) = 6; " + Bounds.index("netOf(6, 0)")
                + "netOf(5, 1) = 0; undo() = 5; account(0) = 5; net(false) = 5; netOf(5, 0) = 0; "
                + Bounds.refused("net(false)", 2, 6));
    }

    private static void numbersOfNets() {
        for (int count = 0; count <= 6; count++) {
            String nets = "net(false); ".repeat(count) + (count > 0 ? "pin(" + (count - 1) + ", 5, 7) = 0; netOf("
                    + (count - 1) + ", 1) = 1; pinOf(" + (count - 1) + ", 0) = 47; " : "");
            noSuchNet(nets, count);
            noSuchNet(nets, 6);
            for (int number : Bounds.FAR_OFF) {
                noSuchNet(nets, number);
            }
        }
    }

    private static void noSuchNet(String nets, int net) {
        StringBuilder calls = new StringBuilder(nets);
        for (String call : new String[] {"pin(" + net + ", 0, 0)", "pin(" + net + ", 6, 8)", "route(" + net + ")",
            "hard(" + net + ")", "rip(" + net + ")"}) {
            calls.append(Bounds.refused(call, 3, net));
        }
        for (String call : new String[] {"netOf(" + net + ", 0)", "netOf(" + net + ", 7)", "pinOf(" + net + ", 0)",
            "price(" + net + ", 0, 0, 0)", "wouldCost(" + net + ")", "wouldRip(" + net + ")", "reach(" + net + ", 0)",
            "cellsOf(" + net + ")", "cellsAgain(" + net + ")", "touches(" + net + ")"}) {
            calls.append(Bounds.index(call));
        }
        Script.run("there is no net " + net, calls.toString());
    }

    private static void fourPins() {
        for (int net = 0; net < 6; net++) {
            String n = "(" + net + ", ";
            Script.run("at most 4 pins, numbered from 0", Bounds.SIX_NETS + "netOf" + n + "1) = 0; pin" + n + "0, 1) = 0; "
                    + "pin" + n + "2, 3) = 1; pin" + n + "4, 5) = 2; netOf" + n + "1) = 3; pin" + n + "5, 7) = 3; netOf"
                    + n + "1) = 4; " + Bounds.refused("pin" + n + "3, 7)", 2, 4) + "netOf" + n + "1) = 4; pinOf" + n
                    + "0) = 1; pinOf" + n + "1) = 19; pinOf" + n + "2) = 37; pinOf" + n + "3) = 47; account(2) = 4; "
                    + "at(3, 7, 0) = -1; at(3, 7, 1) = -1; undo() = 7; pin" + n + "3, 7) = 3; pinOf" + n + "3) = 31");
        }
        Script.run("no pins", "net(false); netOf(0, 1) = 0; cellsOf(0) = 0; cellsAgain(0) = 0; touches(0) = 0; "
                + Bounds.index("pinOf(0, 0)") + Bounds.index("reach(0, 0)") + Bounds.element("wouldCost(0)")
                + Bounds.element("wouldRip(0)") + Bounds.refused("route(0)", 8, 0) + Bounds.refused("hard(0)", 8, 0)
                + Bounds.refused("rip(0)", 11, 0) + "account(2) = 0");
    }

    private static void numbersOfPins() {
        String full = "net(false); net(false); net(false); " + Bounds.pins(0, 0, 2, 4, 6) + Bounds.pins(1, 20, 22)
                + Bounds.pins(2, 40, 42, 44, 46);
        StringBuilder calls = new StringBuilder(full + "pinOf(0, 3) = 6; pinOf(1, 1) = 18; reach(1, 1) = 80; ");
        for (int net = 0; net < 3; net++) {
            // The pin 4 of a net and the pin -1 of the next one would be beside its last and its first one.
            for (int pin : new int[] {-4, -1, net == 1 ? 2 : 4, net == 1 ? 3 : 5, 8}) {
                calls.append(Bounds.index("pinOf(" + net + ", " + pin + ")"));
                calls.append(Bounds.index("reach(" + net + ", " + pin + ")"));
            }
            for (int pin : Bounds.FAR_OFF) {
                calls.append(Bounds.index("pinOf(" + net + ", " + pin + ")"));
                calls.append(Bounds.index("reach(" + net + ", " + pin + ")"));
            }
        }
        Script.run("there is no such pin", calls + Bounds.noReason());
    }

    private static void allPins() {
        StringBuilder calls = new StringBuilder(Bounds.SIX_NETS);
        for (int net = 0; net < 6; net++) {
            calls.append(Bounds.pins(net, 10 * net, 10 * net + 2, 10 * net + 4, 10 * net + 6));
        }
        calls.append("account(2) = 24; account(4) = 48; filledShare() = 0.5; ");
        for (int net = 0; net < 6; net++) {
            calls.append("touches(" + net + ") = " + (net == 0 || net == 5 ? 8 : 16) + "; ");
            calls.append("route(" + net + ") = 6; ");
        }
        calls.append("account(0) = 6; account(1) = 6; account(2) = 24; account(3) = 0; account(4) = 30; account(5) = 18; ");
        calls.append("account(6) = 36; account(7) = 0; account(8) = 8; filledShare() = 0.6875; meanCost() = 6.0; ");
        calls.append("touches(0) = 11; touches(3) = 22; touches(5) = 11; cellsOf(5) = 11; cellsAgain(5) = 11; ");
        calls.append("ranked(0) = 0; ranked(5) = 5; " + Bounds.element("ranked(6)") + "shows(5, 0) = \"FfFfFfF.\"; ");
        calls.append("shows(5, 1) = \"F.F.F.F.\"; pinOf(5, 3) = 46; " + Bounds.refused("pin(5, 5, 7)", 4, 5));
        Script.run("six nets of four pins", calls.toString());
    }

    private static void bothCells() {
        Script.run("a place is free for a pin only with both of its cells", "net(false) = 0; wall(2, 2, 0); "
                + Bounds.refused("pin(0, 2, 2)", 5, -1) + "tearDown(2, 2, 0) = 0; wall(2, 2, 1); "
                + Bounds.refused("pin(0, 2, 2)", 5, -1) + "tearDown(2, 2, 1) = 0; pin(0, 2, 2) = 0; "
                + Bounds.refused("wall(2, 2, 0)", 5, 0) + Bounds.refused("wall(2, 2, 1)", 5, 0)
                + Bounds.refused("tearDown(2, 2, 0)", 7, 0) + Bounds.refused("tearDown(2, 2, 1)", 7, 0));
        Script.run("a place with a pin of the net itself is not free for another one", "net(true) = 0; pin(0, 2, 2) = 0; "
                + Bounds.refused("pin(0, 2, 2)", 5, 0) + "netOf(0, 1) = 1; pin(0, 2, 3) = 1; "
                + Bounds.refused("pin(0, 2, 2)", 5, 0) + Bounds.refused("pin(0, 2, 3)", 5, 0));
    }
}
