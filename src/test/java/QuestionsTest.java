/** Promises 9 to 22: what is asked about nets, cells, ways, holes and the order. */
public final class QuestionsTest {
    private static final String INDEX = "throws IndexOutOfBoundsException; ";
    private static final String ARGUMENT = "throws IllegalArgumentException; ";
    private static final String ELEMENT = "throws NoSuchElementException; ";
    private static final String UNSUPPORTED = "throws UnsupportedOperationException; ";
    /** Net 0 is wide and routed along the row 0; net 1 is routed with a hole; net 2 has a pin. */
    private static final String THREE = "net(true); net(false); net(false); pin(0, 0, 3); pin(0, 0, 7); pin(1, 1, 0); "
            + "pin(1, 5, 7); pin(2, 4, 3); route(0) = 4; route(1) = 14; ";

    public static void main(String[] args) {
        netOf();
        pinOf();
        at();
        isHole();
        price();
        wouldCost();
        wouldRip();
        reach();
        cells();
        holes();
        touches();
        ranked();
        Script.finish();
    }

    private static void netOf() {
        Script.run("promise 9", THREE + "netOf(0, 0) = 1; netOf(0, 1) = 2; netOf(0, 2) = 1; netOf(0, 3) = 4; "
                + "netOf(0, 4) = 3; netOf(0, 5) = 0; netOf(0, 6) = 0; netOf(1, 0) = 0; netOf(1, 3) = 14; "
                + "netOf(1, 4) = 11; netOf(1, 5) = 1; netOf(2, 1) = 1; netOf(2, 2) = 0; netOf(2, 3) = 0; "
                + "netOf(2, 4) = 0; netOf(2, 5) = 0; rip(1) = 11; netOf(1, 6) = 1; netOf(1, 5) = 0");
        Script.run("promise 9, wrong", "netOf(0, 0) = " + INDEX + "netOf(0, 7) = " + INDEX + "net(false) = 0; "
                + "netOf(-1, 0) = " + INDEX + "netOf(1, 9) = " + INDEX + "netOf(0, 7) = " + ARGUMENT
                + "netOf(0, -1) = " + ARGUMENT + "netOf(6, 0) = " + INDEX + "netOf(0, 6) = 0; reason(0) = " + ELEMENT);
    }

    private static void pinOf() {
        Script.run("promise 10", THREE + "pinOf(0, 0) = 3; pinOf(0, 1) = 7; pinOf(1, 0) = 8; pinOf(1, 1) = 47; "
                + "pinOf(2, 0) = 35; "
                + "pinOf(2, 1) = " + INDEX + "pinOf(2, -1) = " + INDEX + "pinOf(3, 0) = " + INDEX + "pinOf(-1, 0) = "
                + INDEX + "pinOf(0, 2) = " + INDEX + "pinOf(6, 0) = " + INDEX + "pinOf(0, 2147483647) = " + INDEX);
        Script.run("promise 10, four pins", "net(false); pin(0, 1, 2); pin(0, 3, 4); pin(0, 5, 6); pin(0, 0, 7); "
                + "pinOf(0, 0) = 10; pinOf(0, 1) = 28; pinOf(0, 2) = 46; pinOf(0, 3) = 7; pinOf(0, 4) = " + INDEX);
    }

    private static void at() {
        Script.run("promise 11", THREE + "wall(3, 3, 1) = 1; at(0, 3, 1) = 0; at(0, 5, 0) = 0; at(0, 5, 1) = -1; "
                + "at(5, 3, 0) = 1; at(4, 3, 0) = 2; at(4, 3, 1) = 2; at(3, 3, 1) = -2; at(3, 3, 0) = -1; "
                + "at(5, 7, 1) = 1; at(-1, 0, 0) = " + INDEX + "at(6, 0, 0) = " + INDEX + "at(0, -1, 0) = " + INDEX
                + "at(0, 8, 0) = " + INDEX + "at(0, 0, -1) = " + INDEX + "at(0, 0, 2) = " + INDEX);
    }

    private static void isHole() {
        Script.run("promise 12", THREE + "isHole(5, 0) = true; isHole(5, 1) = false; isHole(2, 0) = false; "
                + "isHole(-1, 0) = " + INDEX + "isHole(6, 0) = " + INDEX + "isHole(0, -1) = " + INDEX
                + "isHole(0, 8) = " + INDEX + "rip(1) = 11; isHole(5, 0) = false");
    }

    private static void price() {
        Script.run("promise 13", THREE + "wall(3, 3, 1) = 1; price(0, 3, 3, 1) = -1; price(2, 3, 3, 1) = -1; "
                + "price(0, 0, 3, 0) = 0; price(0, 0, 5, 0) = 0; price(2, 0, 3, 0) = -1; price(2, 0, 5, 0) = 8; "
                + "price(2, 0, 4, 0) = -1; price(2, 1, 5, 0) = 8; price(2, 1, 5, 1) = 0; price(2, 1, 3, 1) = -1; "
                + "price(2, 0, 2, 1) = -1; price(2, 1, 2, 0) = 0; price(2, 5, 1, 0) = 8; price(2, 4, 1, 0) = 0; "
                + "price(0, 4, 1, 0) = 8; price(0, 3, 1, 1) = 8; price(0, 3, 1, 0) = 0; price(0, 2, 0, 0) = -1; "
                + "price(0, 3, 3, 0) = -1; price(0, 5, 3, 0) = -1; price(0, 4, 3, 0) = -1; price(1, 4, 3, 1) = -1; "
                + "price(1, 3, 3, 0) = 0; price(1, 5, 7, 1) = 0; price(1, 5, 7, 0) = 0");
        Script.run("promise 13, wrong", "price(0, 0, 0, 0) = " + INDEX + "net(false); price(0, 0, 0, 0) = 0; "
                + "price(-1, 0, 0, 0) = " + INDEX + "price(1, 0, 0, 0) = " + INDEX + "price(0, 6, 0, 0) = " + INDEX
                + "price(0, -1, 0, 0) = " + INDEX + "price(0, 0, 8, 0) = " + INDEX + "price(0, 0, -1, 0) = " + INDEX
                + "price(0, 0, 0, 2) = " + INDEX + "price(0, 0, 0, -1) = " + INDEX);
    }

    private static void wouldCost() {
        Script.run("promise 14", "wouldCost(0) = " + INDEX + "net(false); wouldCost(0) = " + ELEMENT + "pin(0, 1, 1); "
                + "wouldCost(0) = " + ELEMENT + "pin(0, 1, 3); wouldCost(0) = 2; account(8) = 3; netOf(0, 2) = 0; "
                + "at(1, 2, 0) = -1; wall(1, 2, 0); wouldCost(0) = 4; route(0) = 4; wouldCost(0) = " + ELEMENT
                + "wouldCost(-1) = " + INDEX + "wouldCost(1) = " + INDEX + "reason(0) = " + ELEMENT);
    }

    private static void wouldRip() {
        String fence = "net(false); net(false); net(true); pin(0, 0, 3); pin(0, 5, 3); pin(1, 2, 0); pin(1, 2, 7); "
                + "wall(1, 3, 0); wall(2, 3, 0); wall(3, 3, 0); wall(4, 3, 0); ";
        Script.run("promise 15", fence + "wouldRip(1) = 0; route(0) = 5; wouldRip(1) = 1; netOf(0, 2) = 1; "
                + "account(8) = 8; wouldCost(1) = " + ELEMENT + "wouldRip(0) = " + ELEMENT + "wouldRip(2) = " + ELEMENT
                + "wouldRip(3) = " + INDEX + "wouldRip(-1) = " + INDEX + "pin(2, 5, 5) = 0; wouldRip(2) = " + ELEMENT
                + "wall(2, 6, 0); wall(2, 6, 1); wall(1, 7, 0); wall(1, 7, 1); wall(3, 7, 0); wall(3, 7, 1); "
                + "wouldRip(1) = " + ELEMENT + "reason(0) = " + ELEMENT);
    }

    private static void reach() {
        Script.run("promise 16", "net(false); pin(0, 2, 2); reach(0, 0) = 96; wall(0, 1, 0); wall(1, 0, 0); "
                + "wall(0, 1, 1); wall(1, 0, 1); reach(0, 0) = 90; pin(0, 0, 0) = 1; reach(0, 1) = 2; "
                + "reach(0, 0) = 90; reach(0, 2) = " + INDEX + "reach(0, -1) = " + INDEX + "reach(1, 0) = " + INDEX
                + "reach(-1, 0) = " + INDEX + "tearDown(1, 0, 1); reach(0, 1) = 93; reach(0, 0) = 93");
        Script.run("promise 16, other nets", "net(false); net(true); net(false); pin(0, 0, 0); pin(1, 2, 4); "
                + "reach(0, 0) = 86; pin(2, 5, 0); reach(0, 0) = 84; pin(2, 5, 2); route(2) = 2; reach(0, 0) = 81; "
                + "reach(1, 0) = 77; reach(2, 1) = 84");
        Script.run("promise 16, over its own wire", "net(false); pin(0, 0, 0); pin(0, 0, 3); route(0) = 3; "
                + "reach(0, 0) = 96; wall(1, 0, 0); wall(1, 1, 0); wall(1, 2, 0); wall(1, 3, 0); wall(0, 4, 0); "
                + "wall(0, 4, 1); wall(1, 0, 1); wall(1, 1, 1); wall(1, 2, 1); wall(1, 3, 1); reach(0, 1) = 8");
    }

    private static void cells() {
        Script.run("promises 17 and 18", THREE + "cellsOf(0) = 7; cellsAgain(0) = 7; cellsOf(1) = 15; "
                + "cellsAgain(1) = 15; cellsOf(2) = 2; cellsAgain(2) = 2; rip(0) = 3; cellsOf(0) = 4; "
                + "cellsAgain(0) = 4; net(false) = 3; cellsOf(3) = 0; cellsAgain(3) = 0; cellsOf(4) = " + INDEX
                + "cellsAgain(4) = " + INDEX + "cellsOf(-1) = " + INDEX + "cellsAgain(-1) = " + INDEX
                + "cellsOf(-2) = " + INDEX + "cellsAgain(6) = " + INDEX);
    }

    private static void holes() {
        Script.run("promises 19 and 20", "holes() = 0; holesAgain() = 0; net(false); net(false); pin(0, 0, 0); "
                + "pin(0, 5, 7); pin(1, 0, 1); pin(1, 4, 6); route(0) = 15; holes() = 1; holesAgain() = 1; "
                + "route(1) = 12; holes() = 2; holesAgain() = 2; isHole(4, 1) = true; rip(0) = 12; holes() = 1; "
                + "holesAgain() = 1; undo() = 7; holes() = 2; holesAgain() = 2; rip(1); rip(0); holes() = 0; "
                + "holesAgain() = 0");
        Script.run("promises 12, 19 and 20, at the place 0", "net(false); net(false); pin(0, 5, 0); pin(0, 0, 7); "
                + "route(0) = 15; holes() = 1; holesAgain() = 1; isHole(0, 0) = true; shows(0, 1) = \"ao......A\"; "
                + "undo(); isHole(0, 0) = false; holes() = 0; route(0) = 15; isHole(0, 0) = true; rip(0) = 12; "
                + "isHole(0, 0) = false; pin(1, 3, 3); pin(1, 3, 4); route(1) = 1; isHole(0, 0) = false; holes() = 0; "
                + "undo(); undo(); undo(); isHole(0, 0) = false; undo(); isHole(0, 0) = true");
    }

    private static void touches() {
        Script.run("promise 21", "net(false); net(false); net(false); pin(0, 2, 2); touches(0) = 0; pin(1, 2, 3); "
                + "touches(0) = 2; touches(1) = 2; touches(2) = 0; pin(2, 1, 2); touches(0) = 4; touches(2) = 2; "
                + "pin(0, 2, 1) = 1; touches(0) = 4; wall(3, 2, 0); touches(0) = 4; touches(3) = " + INDEX
                + "touches(-1) = " + INDEX + "touches(6) = " + INDEX);
        Script.run("promise 21, wires", "net(false); net(false); pin(0, 2, 0); pin(0, 2, 4); pin(1, 3, 0); "
                + "pin(1, 3, 4); touches(1) = 4; route(0) = 4; touches(1) = 4; route(1) = 4; touches(0) = 7; "
                + "touches(1) = 7; rip(0) = 3; touches(1) = 4");
    }

    private static void ranked() {
        Script.run("promise 22", "ranked(0) = " + ELEMENT + THREE + "ranked(0) = 1; ranked(1) = 0; ranked(2) = 2; "
                + "ranked(3) = " + ELEMENT + "ranked(-1) = " + ELEMENT + "rip(1) = 11; ranked(0) = 0; ranked(1) = 1; "
                + "ranked(2) = 2; rip(0) = 3; ranked(0) = 0; ranked(1) = 1; route(1); rip(1); ranked(0) = 1; "
                + "ranked(1) = 0; ranked(2) = 2; net(false) = 3; ranked(3) = 3; ranked(4) = " + ELEMENT);
    }
}
