/** The terms "Ways" and "Routing": what steps cost, which of several ways it is, and what is of the part. */
public final class WaysTest {
    public static void main(String[] args) {
        steps();
        ties();
        parts();
        ownPins();
        barredCells();
        Script.finish();
    }

    private static void steps() {
        Script.run("along the row on the layer 0", "net(false); pin(0, 3, 1); pin(0, 3, 6); route(0) = 5; "
                + "shows(3, 0) = \".AaaaaA.\"; shows(3, 1) = \".A....A.\"");
        Script.run("along the column on the layer 1", "net(false); pin(0, 0, 2); pin(0, 5, 2); route(0) = 5; "
                + "shows(2, 0) = \"........\"; shows(2, 1) = \"..a.....\"");
        Script.run("along the row on the layer 1", "net(false); pin(0, 3, 1); pin(0, 3, 3); wall(3, 2, 0); "
                + "route(0) = 4; shows(3, 1) = \".AaA....\"");
        Script.run("along the column on the layer 0", "net(false); pin(0, 1, 3); pin(0, 3, 3); wall(2, 3, 1); "
                + "route(0) = 4; shows(2, 0) = \"...a....\"");
        Script.run("a hole", "net(false); pin(0, 0, 0); pin(0, 5, 7); route(0) = 15; holes() = 1; netOf(0, 4) = 12; "
                + "shows(5, 0) = \"aoaaaaaaA\"; shows(5, 1) = \"ao......A\"; shows(4, 1) = \"a.......\"; "
                + "shows(4, 0) = \"........\"");
    }

    private static void ties() {
        Script.run("above comes before left", "net(false); pin(0, 0, 0); pin(0, 2, 2); route(0) = 6; holes() = 0; "
                + "shows(0, 0) = \"Aaa.....\"; shows(1, 0) = \"..a.....\"; shows(2, 0) = \"..A.....\"");
        Script.run("below comes before left", "net(false); pin(0, 2, 0); pin(0, 0, 2); route(0) = 6; "
                + "shows(2, 0) = \"Aaa.....\"; shows(1, 0) = \"..a.....\"; shows(0, 0) = \"..A.....\"");
        Script.run("above comes before right", "net(false); pin(0, 0, 2); pin(0, 2, 0); route(0) = 6; "
                + "shows(0, 0) = \"aaA.....\"; shows(1, 0) = \"a.......\"");
        Script.run("above comes before below", "net(false); pin(0, 1, 0); pin(0, 1, 2); wall(1, 1, 0); wall(1, 1, 1); "
                + "route(0) = 6; shows(0, 0) = \"aaa.....\"; shows(2, 0) = \"........\"");
        Script.run("left comes before right", "net(false); pin(0, 0, 2); pin(0, 3, 2); wall(1, 2, 0); wall(1, 2, 1); "
                + "wall(2, 2, 0); wall(2, 2, 1); route(0) = 7; shows(1, 1) = \".a#.....\"; shows(2, 1) = \".a#.....\"; "
                + "holes() = 0");
        Script.run("a side comes before the other layer", "net(false); pin(0, 0, 0); pin(0, 3, 3); route(0) = 9; "
                + "holes() = 0; shows(0, 0) = \"Aaaa....\"; shows(1, 0) = \"...a....\"");
    }

    private static void parts() {
        Script.run("pins are joined one after the other", "net(false); pin(0, 0, 0); pin(0, 0, 6); pin(0, 2, 3); "
                + "route(0) = 10; shows(0, 0) = \"AaaaaaA.\"; shows(1, 0) = \"...a....\"; shows(1, 1) = \"........\"; "
                + "holes() = 0; netOf(0, 4) = 6; cellsOf(0) = 12");
        Script.run("a way starts at any cell of the part", "net(false); pin(0, 0, 0); pin(0, 0, 6); pin(0, 5, 3); "
                + "route(0) = 14; holes() = 1; isHole(0, 3) = true; netOf(0, 5) = 1; "
                + "shows(0, 0) = \"AaaaoaaA.\"; shows(0, 1) = \"A..ao..A.\"");
        Script.run("both cells of a hole are of the part", "net(false); pin(0, 0, 0); pin(0, 0, 6); pin(0, 5, 3); "
                + "pin(0, 0, 3) = 3; route(0) = 11; holes() = 0; shows(0, 0) = \"AaaAaaA.\"");
        Script.run("the order of the pins counts", "net(false); pin(0, 0, 0); pin(0, 4, 0); pin(0, 0, 7); "
                + "pin(0, 4, 7); route(0) = 15; netOf(0, 4) = 12; shows(1, 1) = \"a......a\"");
    }

    private static void ownPins() {
        Script.run("a pin of the net makes no hole", "net(false); pin(0, 0, 0); pin(0, 4, 5); pin(0, 4, 0); "
                + "route(0) = 9; holes() = 0; netOf(0, 3) = 9; netOf(0, 4) = 7; shows(4, 0) = \"AaaaaA..\"");
        Script.run("a pin that a way goes over costs nothing then", "net(false); pin(0, 0, 0); pin(0, 0, 4); "
                + "pin(0, 0, 2); route(0) = 4; netOf(0, 4) = 2; cellsOf(0) = 8; cellsAgain(0) = 8");
        Script.run("a way goes over one cell of a pin", "net(false); pin(0, 2, 0); pin(0, 2, 4); pin(0, 2, 2); "
                + "wall(2, 1, 1); wall(2, 3, 1); wall(1, 2, 1); wall(3, 2, 1); route(0) = 4; netOf(0, 5) = 0; "
                + "netOf(0, 4) = 2");
        Script.run("from the other cell of a pin that is of the part by one cell", "net(false); pin(0, 0, 0); "
                + "pin(0, 0, 4); pin(0, 4, 2); pin(0, 0, 2); route(0) = 8; holes() = 0; "
                + "shows(1, 1) = \"..a.....\"; shows(1, 0) = \"........\"; netOf(0, 4) = 5");
        Script.run("the pin of another net is in the way", "net(false); net(false); pin(0, 0, 0); pin(0, 0, 2); "
                + "pin(1, 0, 1); route(0) = 6; shows(0, 0) = \"ABA.....\"; shows(1, 0) = \"aaa.....\"; wouldRip(1) = "
                + "throws NoSuchElementException");
    }

    private static void barredCells() {
        Script.run("each barred cell costs eight more", "net(false); net(false); pin(0, 2, 0); pin(0, 2, 3); "
                + "pin(1, 0, 1); pin(1, 5, 1); pin(1, 1, 2); wall(2, 0, 0) = throws UnsupportedOperationException; "
                + "route(0) = 3; route(1) = 7; rip(1) = 4; wall(2, 1, 1) = 1; wall(2, 2, 1) = 2; wouldCost(1) = 18; "
                + "wouldRip(1) = 0; hard(1) = 0; netOf(1, 3) = 18");
        Script.run("along a wire of another", "net(false); net(false); pin(0, 2, 1); pin(0, 2, 5); pin(1, 2, 0); "
                + "pin(1, 2, 6); route(0) = 4; price(1, 2, 2, 0) = 8; price(1, 2, 1, 0) = -1; price(1, 2, 2, 1) = 0; "
                + "wouldCost(1) = 10; wouldRip(1) = 0");
        StringBuilder walls = new StringBuilder();
        for (int row = 1; row < 5; row++) {
            walls.append("wall(" + row + ", 3, 0); wall(" + row + ", 4, 0); ");
        }
        Script.run("a way of two barred cells", "net(false); net(false); net(false); pin(0, 0, 3); pin(0, 5, 3); "
                + "pin(2, 0, 4); pin(2, 5, 4); pin(1, 2, 1); pin(1, 2, 6); " + walls + "route(0) = 5; route(2) = 5; "
                + "wouldRip(1) = 5; hard(1) = 5; netOf(1, 3) = 26; netOf(1, 4) = 4; account(7) = 2; account(1) = 1");
        Script.run("a net that is not routed bars nothing", "net(false); net(false); pin(0, 2, 0); pin(0, 2, 7); "
                + "pin(1, 1, 4); pin(1, 4, 4); wall(2, 4, 1); price(1, 2, 4, 0) = 0; wouldRip(1) = 0; hard(1) = 0; "
                + "netOf(1, 3) = 6");
    }
}
