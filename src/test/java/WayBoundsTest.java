/** The bounds of ways: what is just cheaper, as cheap and just dearer, the longest way, none, and who is ripped. */
public final class WayBoundsTest {
    /** Net 0 lies along the row 2 on the layer 0; on the layer 1 walls go along it, but for the gap. */
    private static String fence(int gap) {
        StringBuilder calls = new StringBuilder("net(false); net(false); " + Bounds.pins(0, 20, 27));
        for (int column = 1; column < 7; column++) {
            if (column != gap) {
                calls.append("wall(2, " + column + ", 1); ");
            }
        }
        return calls + "route(0) = 7; ";
    }

    public static void main(String[] args) {
        steps();
        holeOrNot();
        ownPins();
        pinsInTurn();
        parts();
        ties();
        hardOrNot();
        eachTime();
        longestWay();
        noWay();
        reach();
        ripsOfAll();
        ripsOfNear();
        holesOfRipped();
        Script.finish();
    }

    private static void steps() {
        Script.run("a step in the row costs 1 on the layer 0", "net(false); " + Bounds.pins(0, 30, 31)
                + "wouldCost(0) = 1; route(0) = 1; netOf(0, 4) = 0; account(5) = 0; rip(0) = 0; netOf(0, 6) = 1");
        Script.run("a step in the column costs 1 on the layer 1", "net(false); " + Bounds.pins(0, 33, 43)
                + "wouldCost(0) = 1; route(0) = 1; netOf(0, 4) = 0; netOf(0, 3) = 1; netOf(0, 2) = 1");
        Script.run("a step in the row costs 2 on the layer 1", "net(false); " + Bounds.pins(0, 31, 33) + Bounds.walls(320)
                + "route(0) = 4; at(3, 2, 1) = 0; holes() = 0");
        Script.run("a step in the column costs 2 on the layer 0", "net(false); " + Bounds.pins(0, 13, 33)
                + Bounds.walls(231) + "route(0) = 4; at(2, 3, 0) = 0; holes() = 0");
        Script.run("no step goes over the end of a row", "net(false); " + Bounds.pins(0, 7, 10) + "wouldCost(0) = 9; "
                + "undo(); undo(); " + Bounds.pins(0, 10, 7) + "route(0) = 9");
        Script.run("no step goes over the end of a column", "net(false); " + Bounds.pins(0, 3, 53) + "route(0) = 5");
        Script.run("from corner to corner", "net(false); " + Bounds.pins(0, 0, 57) + "route(0) = 15; netOf(0, 4) = 12; "
                + "rip(0) = 12; undo(); undo(); undo(); undo(); " + Bounds.pins(0, 7, 50) + "route(0) = 15; netOf(0, 5) = 1");
    }

    private static void holeOrNot() {
        Script.run("a hole costs 3: it pays", "net(false); " + Bounds.pins(0, 0, 44) + "route(0) = 11; holes() = 1; "
                + "isHole(4, 0) = true; netOf(0, 4) = 8; netOf(0, 5) = 1");
        Script.run("a hole costs 3: without one it is as cheap, and above comes first", "net(false); "
                + Bounds.pins(0, 0, 34) + "route(0) = 10; holes() = 0; holesAgain() = 0; netOf(0, 4) = 6");
        Script.run("a hole costs 3: without one it is as cheap, but left comes first", "net(false); "
                + Bounds.pins(0, 0, 43) + "route(0) = 10; holes() = 1; isHole(4, 0) = true; netOf(0, 4) = 7; "
                + "shows(4, 0) = \"aoaaA....\"");
        Script.run("a hole costs 3: it does not pay", "net(false); " + Bounds.pins(0, 0, 33) + "route(0) = 9; holes() = 0; "
                + "netOf(0, 5) = 0");
        Script.run("a hole has both cells of its place", "net(false); " + Bounds.pins(0, 0, 44) + "route(0) = 11; "
                + "at(4, 0, 0) = 0; at(4, 0, 1) = 0; isHole(4, 0) = true; isHole(4, 1) = false; isHole(3, 0) = false; "
                + "isHole(0, 0) = false; isHole(4, 4) = false; rip(0) = 8; isHole(4, 0) = false; at(4, 0, 0) = -1; "
                + "at(4, 0, 1) = -1; holes() = 0; holesAgain() = 0; netOf(0, 5) = 0");
    }

    private static void ownPins() {
        Script.run("at a pin of the net itself a step to the other layer costs nothing and makes no hole", "net(false); "
                + Bounds.pins(0, 0, 44) + "wouldCost(0) = 11; undo(); " + Bounds.pins(0, 40, 44)
                + "route(0) = 8; holes() = 0; netOf(0, 5) = 0; netOf(0, 4) = 6");
        Script.run("so it does at a pin that is joined later", "net(false); " + Bounds.pins(0, 0, 44, 40)
                + "route(0) = 8; holes() = 0; netOf(0, 4) = 6; netOf(0, 3) = 8");
        Script.run("a pin of another net lets none through", "net(false); net(false); " + Bounds.pins(0, 0, 44)
                + "pin(1, 4, 0); route(0) = 11; isHole(4, 0) = false; at(4, 0, 1) = 1; holes() = 1");
    }

    private static void pinsInTurn() {
        Script.run("the pins 1, 2 and 3, as far as there are these", "net(false); " + Bounds.element("wouldCost(0)")
                + Bounds.refused("route(0)", 8, 0) + "pin(0, 0, 0) = 0; " + Bounds.element("wouldCost(0)")
                + Bounds.refused("route(0)", 8, 1) + Bounds.refused("hard(0)", 8, 1) + Bounds.element("wouldRip(0)")
                + "pin(0, 0, 2) = 1; wouldCost(0) = 2; wouldRip(0) = 0; pin(0, 0, 4) = 2; wouldCost(0) = 4; "
                + "pin(0, 0, 6) = 3; wouldCost(0) = 6; route(0) = 6; netOf(0, 4) = 3; shows(0, 0) = \"AaAaAaA.\"");
        Script.run("one after the other", "net(false); " + Bounds.pins(0, 0, 6, 2, 4) + "route(0) = 6; netOf(0, 4) = 3");
        Script.run("no way to the pin 1, 2 or 3", "net(false); " + Bounds.pins(0, 30, 0, 33, 36) + Bounds.walls(10, 11, 100,
                101) + Bounds.refused("route(0)", 9, 1) + "tearDown(0, 1, 0) = 3; " + Bounds.walls(230, 231, 430, 431, 320,
                321, 340, 341) + Bounds.refused("route(0)", 9, 2) + Bounds.refused("hard(0)", 9, 2) + "tearDown(3, 4, 1) = 10; "
                + Bounds.walls(260, 261, 460, 461, 350, 351, 370, 371) + Bounds.refused("route(0)", 9, 3)
                + Bounds.refused("hard(0)", 9, 3) + Bounds.element("wouldCost(0)") + Bounds.element("wouldRip(0)")
                + "netOf(0, 2) = 0; netOf(0, 4) = 0; account(5) = 0; holes() = 0");
    }

    private static void parts() {
        Script.run("the part is the two cells of the pin 0 at first", "net(false); " + Bounds.pins(0, 0, 20)
                + "route(0) = 2; at(1, 0, 1) = 0; at(1, 0, 0) = -1; holes() = 0");
        Script.run("both cells of the pin are of the part then", "net(false); " + Bounds.pins(0, 0, 3, 43)
                + "route(0) = 7; holes() = 0; netOf(0, 4) = 5; at(0, 1, 0) = 0; at(2, 3, 1) = 0");
        Script.run("the cells of the way are of the part then", "net(false); " + Bounds.pins(0, 0, 6, 23)
                + "route(0) = 10; netOf(0, 4) = 6; at(1, 3, 0) = 0");
        String hole = "net(false); " + Bounds.pins(0, 2, 46, 40);
        Script.run("a place at which a way makes a hole has one hole", hole + "route(0) = 13; holes() = 1; "
                + "holesAgain() = 1; netOf(0, 5) = 1; isHole(4, 2) = true; at(4, 1, 0) = 0; at(4, 1, 1) = -1");
        Script.run("and the next way goes from either of its cells", hole + "wall(4, 1, 0) = 1; route(0) = 15; "
                + "holes() = 1; netOf(0, 5) = 1; isHole(4, 2) = true; at(4, 1, 1) = 0; netOf(0, 4) = 9");
        Script.run("the wire is in all cells of the part that are none of a pin", hole + "route(0) = 13; netOf(0, 4) = 9; "
                + "cellsOf(0) = 15; cellsAgain(0) = 15; account(5) = 9; account(4) = 81; rip(0) = 9; cellsOf(0) = 6; "
                + "account(5) = 0; account(4) = 90");
    }

    private static void ties() {
        Script.run("below comes before right", "net(false); " + Bounds.pins(0, 22, 0) + "route(0) = 6; "
                + "shows(0, 0) = \"A.......\"; shows(1, 0) = \"a.......\"; shows(2, 0) = \"aaA.....\"");
        Script.run("below comes before left", "net(false); " + Bounds.pins(0, 20, 2) + "route(0) = 6; "
                + "shows(0, 0) = \"..A.....\"; shows(1, 0) = \"..a.....\"; shows(2, 0) = \"Aaa.....\"");
        Script.run("above comes before left", "net(false); " + Bounds.pins(0, 0, 22) + "route(0) = 6; "
                + "shows(0, 0) = \"Aaa.....\"; shows(1, 0) = \"..a.....\"; shows(2, 0) = \"..A.....\"");
        Script.run("above comes before right", "net(false); " + Bounds.pins(0, 2, 20) + "route(0) = 6; "
                + "shows(0, 0) = \"aaA.....\"; shows(1, 0) = \"a.......\"; shows(2, 0) = \"A.......\"");
        Script.run("above comes before below", "net(false); " + Bounds.pins(0, 20, 22) + Bounds.walls(210, 211)
                + "route(0) = 6; shows(1, 0) = \"aaa.....\"; shows(3, 0) = \"........\"");
        Script.run("left comes before right", "net(false); " + Bounds.pins(0, 12, 32) + Bounds.walls(220, 221)
                + "route(0) = 6; shows(2, 0) = \".a#.....\"; shows(1, 0) = \".aA.....\"; shows(3, 0) = \".aA.....\"");
        Script.run("a side comes before the other layer", "net(false); " + Bounds.pins(0, 3, 40) + "route(0) = 10; "
                + "holes() = 1; isHole(4, 3) = true; shows(4, 0) = \"Aaaao....\"");
        Script.run("below comes before the other layer", "net(false); " + Bounds.pins(0, 34, 0) + "route(0) = 10; "
                + "holes() = 0; shows(1, 1) = \"........\"; shows(1, 0) = \"a.......\"; shows(3, 0) = \"aaaaA...\"");
    }

    private static void hardOrNot() {
        String up = Bounds.pins(1, 15, 35);
        Script.run("over a barred cell if that is as cheap and comes first", fence(3) + up + Bounds.walls(141, 341)
                + "wouldCost(1) = 12; wouldRip(1) = 1; hard(1) = 1; netOf(1, 3) = 12; netOf(1, 5) = 0; netOf(0, 2) = 0; "
                + "at(2, 5, 0) = 1");
        Script.run("not over a barred cell if a way round is cheaper", fence(3) + up + "wouldCost(1) = 10; wouldRip(1) = 0; "
                + "hard(1) = 0; netOf(1, 3) = 10; netOf(0, 2) = 1; at(2, 3, 1) = 1; at(2, 5, 0) = 0");
        Script.run("not over a barred cell if a way round is cheaper by 1", fence(3) + up + Bounds.walls(141)
                + "wouldCost(1) = 11; wouldRip(1) = 0; hard(1) = 0; netOf(1, 3) = 11; netOf(1, 5) = 1");
        Script.run("over a barred cell if that is cheaper", fence(2) + up + "wouldCost(1) = 14; wouldRip(1) = 1; "
                + "hard(1) = 1; netOf(1, 3) = 12; netOf(0, 6) = 1; netOf(0, 3) = 0");
        Script.run("not over a barred cell if that is as cheap but comes later", "net(false); net(false); "
                + Bounds.pins(0, 3, 53) + Bounds.pins(1, 32, 34) + Bounds.walls(230, 330, 430, 220, 240) + "route(0) = 5; "
                + "wouldCost(1) = 12; wouldRip(1) = 0; hard(1) = 0; netOf(1, 3) = 12; netOf(1, 5) = 2; netOf(0, 2) = 1");
    }

    private static void eachTime() {
        Script.run("a barred cell costs 8 more", fence(0) + Bounds.pins(1, 15, 35) + Bounds.element("wouldCost(1)")
                + Bounds.refused("route(1)", 9, 1) + "wouldRip(1) = 1; hard(1) = 1; netOf(1, 3) = 12");
        Script.run("and not again for the next way from the part", fence(0) + Bounds.pins(1, 12, 32, 33)
                + "hard(1) = 1; netOf(1, 3) = 13; netOf(0, 6) = 1");
        Script.run("each time that a way comes into one", fence(0) + Bounds.pins(1, 12, 32, 36) + Bounds.walls(340, 341, 440,
                441, 540, 541) + "wouldRip(1) = 1; hard(1) = 1; netOf(1, 3) = 28; netOf(0, 6) = 1; account(7) = 1; "
                + "netOf(1, 4) = 6");
    }

    private static void longestWay() {
        int[] walls = {3, 5, 8, 9, 10, 13, 14, 18, 20, 21, 25, 26, 28, 29, 31, 32, 35, 38, 42, 45, 49, 53, 58, 59, 60, 63, 64,
            67, 70, 71, 73, 74, 77, 80, 81, 83, 84, 86, 89, 92, 95};
        StringBuilder calls = new StringBuilder("net(false); " + Bounds.pins(0, 50, 30));
        for (int wall : walls) {
            calls.append("wall(" + wall % 48 / 8 + ", " + wall % 8 + ", " + wall / 48 + "); ");
        }
        Script.run("a way of 49 cells", calls + "wouldCost(0) = 93; route(0) = 93; netOf(0, 4) = 49; cellsOf(0) = 53; "
                + "cellsAgain(0) = 53; netOf(0, 5) = 12; holes() = 12; holesAgain() = 12; rip(0) = 49; hard(0) = 0");
    }

    private static void noWay() {
        Script.run("a way goes over open cells alone", fence(0) + Bounds.pins(1, 1, 51) + Bounds.refused("route(1)", 9, 1)
                + Bounds.element("wouldCost(1)") + "wouldRip(1) = 1; netOf(1, 2) = 0; account(1) = 1; tearDown(2, 1, 1) = 5; "
                + "wouldRip(1) = 0; route(1) = 5; netOf(0, 2) = 1");
    }

    private static void reach() {
        Script.run("all cells are reached", "net(false); pin(0, 0, 0); reach(0, 0) = 96");
        Script.run("none but those of the pin", "net(false); pin(0, 5, 7); " + Bounds.walls(470, 471, 560, 561)
                + "reach(0, 0) = 2");
        Script.run("over the end of a row none is reached", "net(false); " + Bounds.pins(0, 7, 10) + Bounds.walls(60, 61, 170,
                171) + "reach(0, 0) = 2; reach(0, 1) = 90");
        Script.run("over open cells alone, also after a hard way was asked for", fence(0) + "wall(5, 7, 1); "
                + Bounds.pins(1, 15, 35) + "reach(1, 0) = 32; reach(1, 1) = 47; wouldRip(1) = 1; reach(1, 0) = 32; "
                + "reach(1, 1) = 47; hard(1) = 1; reach(1, 0) = 85; reach(1, 1) = 85; reach(0, 0) = 84; reach(0, 1) = 84");
        Script.run("from layer to layer, too", "net(false); pin(0, 0, 0); " + Bounds.walls(10, 100, 111, 201) + "reach(0, 0) "
                + "= 92; " + Bounds.walls(21) + "reach(0, 0) = 4; wall(0, 1, 1); reach(0, 0) = 3");
    }

    /** Five nets along the columns on the layer 1; the layer 0 between is walled. */
    private static String columns(int first, int hard) {
        StringBuilder calls = new StringBuilder(Bounds.SIX_NETS);
        for (int i = 0; i < 5; i++) {
            calls.append(Bounds.pins(first + i, i + 1, 51 + i));
            calls.append(Bounds.walls(110 + 10 * i, 210 + 10 * i, 310 + 10 * i, 410 + 10 * i));
            calls.append("route(" + (first + i) + ") = 5; ");
        }
        return calls + Bounds.pins(hard, 20, 26);
    }

    private static void ripsOfAll() {
        Script.run("the five nets below", columns(0, 5) + Bounds.refused("route(5)", 9, 1) + "wouldRip(5) = 31; "
                + "hard(5) = 31; netOf(5, 3) = 52; netOf(5, 4) = 5; account(1) = 1; account(7) = 5; netOf(4, 6) = 1; "
                + "netOf(0, 6) = 1; netOf(4, 3) = 0; netOf(4, 4) = 0; undo() = 7; account(1) = 5; account(7) = 0; "
                + "netOf(4, 3) = 5; netOf(4, 4) = 4; netOf(5, 2) = 0");
        Script.run("the five nets above", columns(1, 0) + "wouldRip(0) = 62; hard(0) = 62; netOf(0, 3) = 52; "
                + "account(1) = 1; account(7) = 5; netOf(5, 6) = 1; netOf(1, 6) = 1; undo() = 7; netOf(5, 2) = 1");
        Script.run("the last net alone", columns(1, 0) + "rip(1); rip(2); rip(3); rip(4) = 4; wouldRip(0) = 32; "
                + "hard(0) = 32; netOf(0, 3) = 20; account(7) = 5; netOf(5, 6) = 1");
        Script.run("none", columns(1, 0) + "rip(1); rip(2); rip(3); rip(4); rip(5) = 4; wouldRip(0) = 0; hard(0) = 0; "
                + "netOf(0, 3) = 12; account(7) = 5");
    }

    /** Net 1 comes up from the row 5 to the row 3 and round a wall; net 0 must go through the row 2 on the layer 1. */
    private static String round(boolean isWide, boolean otherIsWide) {
        return "net(" + isWide + "); net(" + otherIsWide + "); " + Bounds.pins(0, 20, 27) + Bounds.pins(1, 52, 55)
                + Bounds.walls(530, 531, 430, 431, 30, 31, 130, 131, 230, 330) + "route(1) = 10; at(3, 3, 1) = 1; "
                + "at(2, 3, 1) = -1; ";
    }

    private static void ripsOfNear() {
        Script.run("to whose wire a cell is near, if the net is wide", round(true, false) + "price(0, 2, 3, 1) = 8; "
                + Bounds.refused("route(0)", 9, 1) + "wouldRip(0) = 2; hard(0) = 2; netOf(1, 2) = 0; touches(0) = 0");
        Script.run("to whose wire a cell is near, if that is wide", round(false, true) + "price(0, 2, 3, 1) = 8; "
                + Bounds.refused("route(0)", 9, 1) + "wouldRip(0) = 2; hard(0) = 2; netOf(1, 2) = 0; netOf(1, 6) = 1");
        Script.run("to whose wire a cell is near, if both are wide", round(true, true) + "price(0, 2, 3, 1) = 8; "
                + "wouldRip(0) = 2; hard(0) = 2; at(3, 3, 1) = -1");
        // Net 2 must come down on the layer 0 into the row 2, where net 0 is and net 1 is near, and go on on the layer 1.
        Script.run("the net in a cell, and the net to which that cell is near", "net(false); net(false); net(true); "
                + Bounds.pins(0, 21, 26) + Bounds.pins(1, 31, 36) + Bounds.pins(2, 4, 54) + Bounds.walls(101, 111, 121, 131,
                141, 151, 161, 171, 400, 410, 420, 430, 440, 450, 460, 470) + "route(0) = 5; route(1) = 5; wouldRip(2) = 3; "
                + "hard(2) = 3; netOf(2, 3) = 26; isHole(2, 4) = true; netOf(0, 6) = 1; netOf(1, 6) = 1");
        Script.run("none is ripped near it if none is wide", round(false, false) + "price(0, 2, 3, 1) = 0; "
                + "wouldRip(0) = 0; hard(0) = 0; netOf(1, 2) = 1; netOf(1, 6) = 0; at(2, 3, 1) = 0; at(3, 3, 1) = 1; "
                + "touches(0) = 3; touches(1) = 3");
    }

    /** In both, nets with holes are ripped by net 0, nets 4 and 5 among them. */
    private static void holesOfRipped() {
        Script.run("the holes of nets that are ripped do not count: not more than 12 without them", Bounds.SIX_NETS
                + Bounds.pins(0, 23, 50) + Bounds.pins(1, 54, 31) + Bounds.pins(2, 15, 13) + Bounds.pins(3, 11, 46, 17)
                + Bounds.pins(4, 7, 51, 22) + Bounds.pins(5, 41, 24) + Bounds.walls(0, 40, 260, 350, 400, 570, 21, 51, 201, 351,
                371, 551) + "route(1); route(2); route(4); route(5); holes() = 8; netOf(4, 5) = 4; netOf(5, 5) = 4; "
                + "tearDown(0, 5, 1); wall(3, 3, 1); wouldRip(0) = 48; hard(0) = 48; netOf(0, 5) = 11; holes() = 11; "
                + "holesAgain() = 11; netOf(4, 5) = 0; netOf(5, 5) = 0; netOf(4, 2) = 0; netOf(5, 6) = 1; undo(); "
                + "holes() = 8; holesAgain() = 8");
        Script.run("the holes of nets that are ripped do not count: more than 12 without them", Bounds.SIX_NETS
                + Bounds.pins(0, 21, 50, 17) + Bounds.pins(1, 32, 4, 24) + Bounds.pins(2, 3, 51) + Bounds.pins(3, 31, 14)
                + Bounds.pins(4, 35, 30) + Bounds.pins(5, 11, 43) + Bounds.walls(10, 70, 160, 230, 250, 270, 400, 450, 470, 540,
                121, 161, 341, 361, 451, 521) + "route(1); route(4); route(5); " + Bounds.walls(220, 101, 221, 271)
                + "holes() = 4; netOf(4, 5) = 3; netOf(5, 5) = 1; wouldRip(0) = 50; " + Bounds.refused("hard(0)", 10, 13)
                + "wouldRip(0) = 50; holes() = 4; holesAgain() = 4; account(1) = 3; account(7) = 0; netOf(0, 2) = 0");
    }
}
