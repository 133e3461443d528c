/** The bounds of what is asked: each "what", places in the order, the shortest and the longest line, means and shares. */
public final class AnswerBoundsTest {
    public static void main(String[] args) {
        netOf();
        accounts();
        pinOf();
        cells();
        holes();
        ranked();
        rankedByAll();
        lineOfEach();
        longestLine();
        lineBefore();
        characters();
        means();
        shares();
        wouldCost();
        Script.finish();
    }

    private static void netOf() {
        StringBuilder calls = new StringBuilder("net(true); net(false); " + Bounds.pins(0, 0, 44) + "route(0) = 11; rip(0); "
                + "route(0) = 11; netOf(0, 0) = 1; netOf(0, 1) = 2; netOf(0, 2) = 1; netOf(0, 3) = 11; netOf(0, 4) = 8; "
                + "netOf(0, 5) = 1; netOf(0, 6) = 1; ");
        for (int what = 0; what <= 6; what++) {
            calls.append("netOf(1, " + what + ") = 0; ");
        }
        for (int what : Bounds.FAR_OFF) {
            calls.append(Bounds.argument("netOf(0, " + what + ")")).append(Bounds.index("netOf(2, " + what + ")"));
        }
        Script.run("what from 0 to 6", calls + Bounds.argument("netOf(0, 7)") + Bounds.argument("netOf(1, -1)")
                + Bounds.argument("netOf(1, 7)") + Bounds.index("netOf(2, 0)") + Bounds.index("netOf(-1, 0)"));
        Script.run("how often it was ripped, by hard ways of others, too", "net(false); net(false); " + Bounds.pins(0, 20, 27)
                + Bounds.pins(1, 15, 35) + Bounds.walls(211, 221, 231, 241, 251, 261) + "route(0) = 7; rip(0) = 6; "
                + "netOf(0, 6) = 1; hard(0) = 0; hard(1) = 1; netOf(0, 6) = 2; netOf(1, 6) = 0; rip(1) = 1; route(0) = 7; "
                + "hard(1) = 1; netOf(0, 6) = 3; netOf(1, 6) = 1; account(7) = 4; " + Bounds.refused("rip(0)", 11, 0)
                + "netOf(0, 6) = 3");
    }

    private static void accounts() {
        StringBuilder calls = new StringBuilder();
        for (int what = 0; what <= 9; what++) {
            calls.append("account(" + what + ") = " + (what == 4 ? 96 : 0) + "; ");
        }
        for (int what : Bounds.FAR_OFF) {
            calls.append(Bounds.argument("account(" + what + ")"));
        }
        Script.run("what from 0 to 9", calls + Bounds.argument("account(10)") + "net(false); net(false); "
                + Bounds.pins(0, 0, 44) + Bounds.pins(1, 5, 7, 26) + "wall(5, 5, 0); route(0) = 11; rip(0) = 8; route(0) = 11; "
                + "route(1) = 6; type(\"r0;\"); account(0) = 2; account(1) = 2; account(2) = 5; account(3) = 1; "
                + "account(4) = 75; account(5) = 10; account(6) = 17; account(7) = 1; account(8) = 8; account(9) = 3; "
                + Bounds.argument("account(10)") + Bounds.argument("account(-1)"));
    }

    private static void pinOf() {
        Script.run("8 times the row, and the column, together", "net(false); net(false); " + Bounds.pins(0, 0, 7, 50, 57)
                + Bounds.pins(1, 10, 17) + "pinOf(0, 0) = 0; pinOf(0, 1) = 7; pinOf(0, 2) = 40; pinOf(0, 3) = 47; "
                + "pinOf(1, 0) = 8; pinOf(1, 1) = 15");
    }

    private static void cells() {
        Script.run("cells in two ways", "net(false); net(false); cellsOf(0) = 0; cellsAgain(0) = 0; pin(0, 0, 0); "
                + "cellsOf(0) = 2; cellsAgain(0) = 2; pin(0, 0, 1); route(0) = 1; cellsOf(0) = 4; cellsAgain(0) = 4; rip(0) = 0; "
                + Bounds.pins(0, 5, 57) + "cellsOf(0) = 8; cellsAgain(0) = 8; route(0) = 14; cellsOf(0) = 17; "
                + "cellsAgain(0) = 17; netOf(0, 4) = 9; undo(); cellsOf(0) = 8; cellsAgain(0) = 8; cellsOf(1) = 0; "
                + "cellsAgain(1) = 0; wall(3, 3, 0); cellsOf(1) = 0; " + Bounds.index("cellsOf(2)")
                + Bounds.index("cellsAgain(2)") + Bounds.index("cellsOf(-1)") + Bounds.index("cellsAgain(-1)"));
    }

    private static void holes() {
        Script.run("holes in two ways, at the first place", "net(false); " + Bounds.pins(0, 7, 50) + Bounds.walls(560, 570)
                + "holes() = 0; holesAgain() = 0; route(0) = 15; isHole(0, 0) = true; holes() = 1; holesAgain() = 1; "
                + "isHole(0, 1) = false; isHole(1, 0) = false; at(0, 0, 0) = 0; at(0, 0, 1) = 0; rip(0) = 12; "
                + "isHole(0, 0) = false; at(0, 0, 0) = -1; at(0, 0, 1) = -1; holes() = 0; holesAgain() = 0; account(4) = 90");
        Script.run("holes in two ways, at the last place", "net(false); " + Bounds.pins(0, 7, 50) + Bounds.walls(10, 410)
                + "route(0) = 15; isHole(5, 7) = true; isHole(5, 6) = false; isHole(4, 7) = false; holes() = 1; "
                + "holesAgain() = 1; at(5, 7, 0) = 0; at(5, 7, 1) = 0; rip(0) = 12; isHole(5, 7) = false; at(5, 7, 0) = -1; "
                + "at(5, 7, 1) = -1; holes() = 0; holesAgain() = 0; account(4) = 90");
    }

    private static void ranked() {
        Script.run("there is no such place", Bounds.element("ranked(0)") + Bounds.element("ranked(-1)") + "net(false); "
                + "ranked(0) = 0; " + Bounds.element("ranked(1)") + Bounds.element("ranked(-1)")
                + Bounds.element("ranked(-2147483648)") + Bounds.element("ranked(2147483647)") + "undo(); "
                + Bounds.element("ranked(0)") + Bounds.SIX_NETS + "ranked(0) = 0; ranked(1) = 1; ranked(2) = 2; ranked(3) = 3; "
                + "ranked(4) = 4; ranked(5) = 5; " + Bounds.element("ranked(6)") + Bounds.element("ranked(-1)"));
        Script.run("the one with the greatest cost first, by one", "net(false); net(false); net(false); "
                + Bounds.pins(0, 0, 3) + Bounds.pins(1, 20, 24) + Bounds.pins(2, 40, 43) + "route(0) = 3; route(1) = 4; "
                + "route(2) = 3; ranked(0) = 1; ranked(1) = 0; ranked(2) = 2; rip(1); ranked(0) = 0; ranked(1) = 2; "
                + "ranked(2) = 1");
        Script.run("of several the one that was ripped more often, by one", "net(false); net(false); net(false); "
                + Bounds.pins(0, 0, 3) + Bounds.pins(1, 20, 23) + Bounds.pins(2, 40, 43) + "route(0); route(1); route(2); "
                + "rip(2); route(2) = 3; ranked(0) = 2; ranked(1) = 0; ranked(2) = 1; rip(1); route(1); rip(1); "
                + "route(1) = 3; ranked(0) = 1; ranked(1) = 2; ranked(2) = 0; rip(0); route(0) = 3; ranked(0) = 1; "
                + "ranked(1) = 0; ranked(2) = 2");
        Script.run("of these the lowest one", Bounds.SIX_NETS + Bounds.pins(5, 0, 1) + Bounds.pins(3, 20, 21)
                + "route(5); rip(5); route(3); rip(3); ranked(0) = 3; ranked(1) = 5; ranked(2) = 0; ranked(3) = 1; "
                + "ranked(4) = 2; ranked(5) = 4");
        Script.run("the cost comes before how often it was ripped", "net(false); net(false); " + Bounds.pins(0, 0, 3)
                + Bounds.pins(1, 20, 24) + "route(0); rip(0); route(0); rip(0); route(0) = 3; ranked(0) = 0; route(1) = 4; "
                + "ranked(0) = 1; ranked(1) = 0");
    }

    private static void rankedByAll() {
        StringBuilder calls = new StringBuilder(Bounds.SIX_NETS);
        for (int net = 0; net < 6; net++) {
            calls.append(Bounds.pins(net, 10 * net, 10 * net + 1 + net) + "route(" + net + ") = " + (net + 1) + "; ");
        }
        for (int place = 0; place < 6; place++) {
            calls.append("ranked(" + place + ") = " + (5 - place) + "; ");
        }
        Script.run("six nets with six costs", calls + "account(6) = 21; meanCost() = 3.5; " + Bounds.element("ranked(6)"));
    }

    private static void lineOfEach() {
        StringBuilder calls = new StringBuilder(Bounds.SIX_NETS);
        for (int net = 0; net < 6; net++) {
            String great = "ABCDEF".substring(net, net + 1);
            String small = "abcdef".substring(net, net + 1);
            calls.append(Bounds.pins(net, 10 * net, 10 * net + 2) + "route(" + net + ") = 2; wall(" + net + ", 7, 1); ");
            calls.append("shows(" + net + ", 0) = \"" + great + small + great + ".....\"; ");
            calls.append("shows(" + net + ", 1) = \"" + great + "." + great + "....#\"; ");
        }
        Script.run("a letter from a on for the net, or a great one if it is a pin", calls.toString());
        StringBuilder wrong = new StringBuilder("net(false); pin(0, 0, 0); line(0, 0) = 8; line(5, 1) = 8; line(0, 1) = 8; ");
        for (int number : Bounds.FAR_OFF) {
            wrong.append(Bounds.index("line(" + number + ", 0)")).append(Bounds.index("line(0, " + number + ")"));
        }
        Script.run("there is no such row or layer", wrong + Bounds.index("line(6, 0)") + Bounds.index("line(-1, 1)")
                + Bounds.index("line(5, 2)") + Bounds.index("line(5, -1)") + Bounds.index("line(6, 2)")
                + "character(0) = 'A'; character(7) = '.'");
    }

    private static boolean holds(int[] numbers, int number) {
        for (int one : numbers) {
            if (one == number) {
                return true;
            }
        }
        return false;
    }

    /** Two nets go up and down through the row 3, each with a hole in every other column of it. */
    private static void longestLine() {
        int[] first = {200, 300, 301, 401, 411, 421, 321, 320, 220, 230, 240, 340, 341, 441, 451, 461, 361, 360, 260};
        int[] second = {211, 311, 310, 410, 420, 430, 330, 331, 231, 241, 251, 351, 350, 450, 460, 470, 370, 371, 271};
        int[] pins = {100, 101, 110, 111, 160, 161, 170, 171};
        StringBuilder calls = new StringBuilder("net(false); net(false); " + Bounds.pins(0, 10, 16) + Bounds.pins(1, 11, 17));
        for (int cell = 0; cell < 96; cell++) {
            int number = cell / 16 * 100 + cell / 2 % 8 * 10 + cell % 2;
            if (!holds(first, number) && !holds(pins, number)) {
                calls.append(Bounds.walls(number));
            }
        }
        calls.append("route(0) = 38; ");
        for (int cell : second) {
            calls.append(Bounds.walls(cell).replace("wall", "tearDown"));
        }
        Script.run("a hole at each place of a row", calls + "route(1) = 34; holes() = 8; holesAgain() = 8; netOf(0, 5) = 4; "
                + "line(3, 0) = 16; shows(3, 0) = \"aoboaoboaoboaobo\"; shows(3, 1) = \"aoboaoboaoboaobo\"; "
                + "character(15) = 'o'; " + Bounds.index("character(16)") + "shows(2, 0) = \"a#aaa#a#\"; character(7) = '#'; "
                + Bounds.index("character(8)") + "shows(1, 0) = \"AB####AB\"");
    }

    private static void lineBefore() {
        Script.run("in place of the line before", "net(false); " + Bounds.pins(0, 0, 44) + "route(0) = 11; line(4, 0) = 9; "
                + "character(8) = '.'; line(3, 0) = 8; character(0) = '.'; " + Bounds.index("character(8)") + "line(3, 1) = 8; "
                + "character(0) = 'a'; line(4, 1) = 9; character(1) = 'o'; character(0) = 'a'; " + Bounds.index("line(6, 1)")
                + "character(1) = 'o'; character(8) = '.'; rip(0); character(1) = 'o'; line(4, 1) = 8; character(1) = '.'");
        Script.run("a hole is told by o on both layers", "net(false); " + Bounds.pins(0, 0, 44) + "route(0) = 11; "
                + "shows(4, 0) = \"aoaaaA...\"; shows(4, 1) = \"ao...A...\"; shows(0, 0) = \"A.......\"");
    }

    private static void characters() {
        StringBuilder calls = new StringBuilder(Bounds.index("character(0)") + Bounds.index("character(-1)")
                + Bounds.index("line(-1, 0)") + Bounds.index("character(0)") + "line(0, 0) = 8; ");
        for (int index = 0; index < 8; index++) {
            calls.append("character(" + index + ") = '.'; ");
        }
        for (int index : Bounds.FAR_OFF) {
            calls.append(Bounds.index("character(" + index + ")"));
        }
        Script.run("a character of the line, which is empty at first", calls + Bounds.index("character(8)")
                + Bounds.index("character(9)") + Bounds.index("character(15)") + Bounds.index("character(16)"));
    }

    private static void means() {
        Script.run("no net is routed", Bounds.arithmetic("meanCost()") + "net(false); " + Bounds.arithmetic("meanCost()")
                + Bounds.pins(0, 0, 1) + Bounds.arithmetic("meanCost()") + "route(0) = 1; meanCost() = 1.0; rip(0); "
                + Bounds.arithmetic("meanCost()") + "undo(); meanCost() = 1.0; undo(); " + Bounds.arithmetic("meanCost()"));
        Script.run("both as floats", "net(false); net(false); net(false); net(false); " + Bounds.pins(0, 0, 1)
                + Bounds.pins(1, 20, 22) + Bounds.pins(2, 40, 42) + "route(0) = 1; route(1) = 2; meanCost() = 1.5; "
                + "route(2) = 2; meanCost() = 1.6666666; rip(1); meanCost() = 1.5; rip(2); meanCost() = 1.0");
    }

    private static void shares() {
        Script.run("the share of the 96 cells in which is a net or a wall", "filledShare() = 0.0; wall(0, 0, 0); "
                + "filledShare() = 0.010416666666666666; net(true); filledShare() = 0.010416666666666666; "
                + Bounds.pins(0, 20, 23) + "filledShare() = 0.052083333333333336; route(0) = 3; filledShare() = 0.07291666666666667; "
                + "tearDown(0, 0, 0); filledShare() = 0.0625; rip(0); filledShare() = 0.041666666666666664");
    }

    private static void wouldCost() {
        Script.run("it is routed, has fewer than 2 pins, or there is no way", "net(false); " + Bounds.element("wouldCost(0)")
                + Bounds.element("wouldRip(0)") + "pin(0, 0, 0); " + Bounds.element("wouldCost(0)")
                + Bounds.element("wouldRip(0)") + "pin(0, 5, 7); wouldCost(0) = 15; wouldRip(0) = 0; route(0) = 15; "
                + Bounds.element("wouldCost(0)") + Bounds.element("wouldRip(0)") + "rip(0); " + Bounds.walls(10, 11, 100, 101)
                + Bounds.element("wouldCost(0)") + Bounds.element("wouldRip(0)") + "tearDown(0, 1, 0); wouldCost(0) = 15; "
                + "wouldRip(0) = 0; at(0, 1, 0) = -1; netOf(0, 2) = 0; account(8) = 8; " + Bounds.noReason());
    }
}
