/** Promises 1 to 8: a new object, net, pin, wall, tearDown, route, hard and rip. */
public final class ChangesTest {
    private static final String UNSUPPORTED = "throws UnsupportedOperationException; ";
    private static final String TWO_NETS = "net(false) = 0; net(false) = 1; ";
    /** Net 0 is routed along the row 2, and net 1 has its pins above and below of it. */
    private static final String CROSSED = TWO_NETS + "pin(0, 2, 0) = 0; pin(0, 2, 7) = 1; pin(1, 0, 4) = 0; "
            + "pin(1, 5, 4) = 1; route(0) = 7; ";

    public static void main(String[] args) {
        newObject();
        net();
        pin();
        pinTooNear();
        wall();
        tearDown();
        route();
        routeWithoutWay();
        hard();
        holeLimit();
        rip();
        Script.finish();
    }

    private static void newObject() {
        Script.run("promise 1", "account(0) = 0; account(1) = 0; account(2) = 0; account(3) = 0; account(4) = 96; "
                + "account(5) = 0; account(6) = 0; account(7) = 0; account(8) = 0; account(9) = 0; holes() = 0; "
                + "holesAgain() = 0; filledShare() = 0.0; at(0, 0, 0) = -1; at(5, 7, 1) = -1; isHole(5, 7) = false; "
                + "faultPosition() = -1; reason(0) = throws NoSuchElementException; shows(3, 1) = \"........\"");
    }

    private static void net() {
        Script.run("promise 2", "net(true) = 0; net(false) = 1; netOf(0, 0) = 1; netOf(1, 0) = 0; net(true) = 2; "
                + "net(false) = 3; net(false) = 4; net(false) = 5; account(8) = 6; net(true) = " + UNSUPPORTED
                + "reason(0) = 2; reason(1) = 6; reason(2) = 0; account(0) = 6; account(8) = 6; "
                + "netOf(5, 1) = 0; netOf(5, 2) = 0; netOf(5, 3) = 0");
    }

    private static void pin() {
        Script.run("promise 3", "net(false) = 0; pin(0, 0, 0) = 0; pin(0, 5, 7) = 1; at(5, 7, 0) = 0; at(5, 7, 1) = 0; "
                + "at(0, 0, 0) = 0; at(0, 0, 1) = 0; netOf(0, 1) = 2; account(8) = 3");
        Script.run("promise 3, no such net first", "pin(0, 9, 9) = " + UNSUPPORTED + "reason(0) = 3; reason(1) = 0; "
                + "pin(-7, 0, 0) = " + UNSUPPORTED + "reason(0) = 3; reason(1) = -7; pin(2147483647, 0, 0) = "
                + UNSUPPORTED + "reason(1) = 2147483647; account(8) = 0");
        Script.run("promise 3, out of range", "net(false) = 0; pin(0, -1, 0) = " + UNSUPPORTED + "reason(0) = 1; "
                + "reason(1) = 0; pin(0, 6, 0) = " + UNSUPPORTED + "reason(0) = 1; pin(0, 0, -1) = " + UNSUPPORTED
                + "reason(0) = 1; pin(0, 0, 8) = " + UNSUPPORTED + "reason(0) = 1; netOf(0, 1) = 0");
        Script.run("promise 3, out of range before routed", "net(false) = 0; pin(0, 0, 0); pin(0, 0, 1); route(0) = 1; "
                + "pin(0, 6, 0) = " + UNSUPPORTED + "reason(0) = 1; pin(0, 0, 0) = " + UNSUPPORTED
                + "reason(0) = 4; reason(1) = 0");
        Script.run("promise 3, routed before too many", "net(false) = 0; net(false) = 1; pin(1, 0, 0); pin(1, 0, 1); "
                + "pin(1, 0, 2); pin(1, 0, 3) = 3; pin(1, 0, 3) = " + UNSUPPORTED + "reason(0) = 2; reason(1) = 4; "
                + "pin(1, 1, 4) = " + UNSUPPORTED + "reason(0) = 2; route(1) = 3; pin(1, 1, 4) = " + UNSUPPORTED
                + "reason(0) = 4; reason(1) = 1");
        Script.run("promise 3, not free", TWO_NETS + "pin(1, 3, 3) = 0; pin(1, 3, 3) = " + UNSUPPORTED
                + "reason(0) = 5; reason(1) = 1; pin(0, 3, 3) = " + UNSUPPORTED + "reason(0) = 5; reason(1) = 1; "
                + "wall(2, 2, 1) = 1; pin(0, 2, 2) = " + UNSUPPORTED + "reason(0) = 5; reason(1) = -1; "
                + "wall(4, 4, 0) = 2; pin(0, 4, 4) = " + UNSUPPORTED + "reason(0) = 5; reason(1) = -1; "
                + "netOf(0, 1) = 0");
        Script.run("promise 3, of two cells that are not free the layer 0 first", CROSSED
                + "wall(2, 3, 1) = 1; net(false) = 2; pin(2, 2, 3) = " + UNSUPPORTED + "reason(0) = 5; reason(1) = 0; "
                + "wall(4, 4, 0) = 2; wall(3, 4, 0) = 3; wouldCost(1) = 5; route(1) = 5; pin(2, 4, 4) = " + UNSUPPORTED
                + "reason(0) = 5; reason(1) = -1; pin(2, 1, 4) = " + UNSUPPORTED + "reason(1) = 1");
    }

    private static void pinTooNear() {
        Script.run("promise 3, not too near if none is wide", TWO_NETS + "pin(0, 2, 2) = 0; pin(1, 2, 3) = 0; "
                + "touches(0) = 2");
        Script.run("promise 3, too near a wide net", "net(true) = 0; net(false) = 1; net(false) = 2; pin(0, 2, 2) = 0; "
                + "pin(1, 2, 3) = " + UNSUPPORTED + "reason(0) = 6; reason(1) = 0; pin(1, 2, 1) = " + UNSUPPORTED
                + "reason(0) = 6; pin(1, 1, 2) = " + UNSUPPORTED + "reason(0) = 6; pin(1, 3, 2) = " + UNSUPPORTED
                + "reason(0) = 6; pin(1, 1, 1) = 0; pin(0, 2, 3) = 1; pin(1, 2, 5) = 1");
        Script.run("promise 3, a wide pin too near a net", TWO_NETS + "net(true) = 2; pin(0, 2, 2); pin(1, 2, 4); "
                + "pin(2, 2, 3) = " + UNSUPPORTED + "reason(0) = 6; reason(1) = 0; pin(2, 2, 5) = " + UNSUPPORTED
                + "reason(1) = 1; pin(2, 0, 7) = 0");
        Script.run("promise 3, too near a wire on the layer 1 alone", "net(false) = 0; net(true) = 1; pin(0, 0, 4); "
                + "pin(0, 4, 4); route(0) = 4; at(2, 4, 1) = 0; at(2, 4, 0) = -1; pin(1, 2, 3) = " + UNSUPPORTED
                + "reason(0) = 6; reason(1) = 0; pin(1, 2, 2) = 0");
        Script.run("promise 3, of two cells that are too near the layer 0 first", "net(false) = 0; net(false) = 1; "
                + "net(true) = 2; pin(0, 0, 4); pin(0, 4, 4); route(0) = 4; pin(1, 3, 1); pin(1, 3, 5); "
                + "route(1) = 4; at(3, 4, 0) = 1; at(3, 4, 1) = 0; pin(2, 2, 4) = " + UNSUPPORTED + "reason(0) = 5; "
                + "pin(2, 2, 3) = " + UNSUPPORTED + "reason(0) = 6; reason(1) = 1; pin(2, 1, 3) = " + UNSUPPORTED
                + "reason(0) = 6; reason(1) = 0");
    }

    private static void wall() {
        Script.run("promise 4", "wall(0, 0, 0) = 1; wall(5, 7, 1) = 2; wall(0, 0, 1) = 3; at(0, 0, 0) = -2; "
                + "at(5, 7, 1) = -2; at(5, 7, 0) = -1; account(8) = 3; wall(0, 0, 0) = " + UNSUPPORTED
                + "reason(0) = 5; reason(1) = -1; account(3) = 3; account(8) = 3");
        Script.run("promise 4, out of range", "wall(-1, 0, 0) = " + UNSUPPORTED + "reason(0) = 1; reason(1) = 0; "
                + "wall(6, 0, 0) = " + UNSUPPORTED + "reason(0) = 1; wall(0, -1, 0) = " + UNSUPPORTED
                + "wall(0, 8, 0) = " + UNSUPPORTED + "wall(0, 0, -1) = " + UNSUPPORTED + "wall(0, 0, 2) = "
                + UNSUPPORTED + "reason(0) = 1; account(3) = 0");
        Script.run("promise 4, in a net", CROSSED + "wall(2, 0, 1) = " + UNSUPPORTED + "reason(0) = 5; reason(1) = 0; "
                + "wall(0, 4, 0) = " + UNSUPPORTED + "reason(1) = 1; wall(2, 3, 0) = " + UNSUPPORTED
                + "reason(1) = 0; wall(2, 3, 1) = 1");
    }

    private static void tearDown() {
        Script.run("promise 5", "wall(3, 3, 0) = 1; wall(3, 3, 1) = 2; tearDown(3, 3, 0) = 1; at(3, 3, 0) = -1; "
                + "at(3, 3, 1) = -2; account(8) = 3; tearDown(3, 3, 0) = " + UNSUPPORTED + "reason(0) = 7; "
                + "reason(1) = 0; tearDown(3, 3, 1) = 0; net(false) = 0; pin(0, 3, 3) = 0; tearDown(3, 3, 0) = "
                + UNSUPPORTED + "reason(0) = 7; reason(1) = 0; at(3, 3, 0) = 0");
        Script.run("promise 5, out of range", "tearDown(-1, 0, 0) = " + UNSUPPORTED + "reason(0) = 1; "
                + "tearDown(6, 0, 0) = " + UNSUPPORTED + "reason(0) = 1; tearDown(0, -1, 0) = " + UNSUPPORTED
                + "reason(0) = 1; tearDown(0, 8, 0) = " + UNSUPPORTED + "reason(0) = 1; tearDown(0, 0, 2) = "
                + UNSUPPORTED + "reason(0) = 1; tearDown(0, 0, -1) = " + UNSUPPORTED + "reason(0) = 1; "
                + "reason(1) = 0");
    }

    private static void route() {
        Script.run("promise 6", CROSSED + "route(1) = 5; at(2, 4, 1) = 1; at(2, 4, 0) = 0; netOf(1, 2) = 1; "
                + "netOf(1, 3) = 5; netOf(1, 4) = 4; account(8) = 8");
        Script.run("promise 6, refused", "route(0) = " + UNSUPPORTED + "reason(0) = 3; reason(1) = 0; net(false) = 0; "
                + "route(-1) = " + UNSUPPORTED + "reason(0) = 3; reason(1) = -1; route(0) = " + UNSUPPORTED
                + "reason(0) = 8; reason(1) = 0; pin(0, 0, 0); route(0) = " + UNSUPPORTED + "reason(0) = 8; "
                + "reason(1) = 1; pin(0, 0, 2); route(0) = 2; route(0) = " + UNSUPPORTED + "reason(0) = 4; "
                + "reason(1) = 0; account(8) = 4");
        Script.run("promise 6, pins side by side", "net(false) = 0; pin(0, 0, 0); pin(0, 0, 1); route(0) = 1; "
                + "netOf(0, 2) = 1; netOf(0, 4) = 0; rip(0) = 0; netOf(0, 2) = 0");
    }

    private static void routeWithoutWay() {
        String pinnedIn = "net(false) = 0; pin(0, 0, 0); pin(0, 0, 2); pin(0, 5, 7); wall(4, 7, 0); wall(4, 7, 1); "
                + "wall(5, 6, 0); wall(5, 6, 1) = 4; ";
        Script.run("promise 6, no way", pinnedIn + "route(0) = " + UNSUPPORTED + "reason(0) = 9; reason(1) = 2; "
                + "netOf(0, 2) = 0; at(0, 1, 0) = -1; account(8) = 8; wouldCost(0) = throws NoSuchElementException; "
                + "wouldRip(0) = throws NoSuchElementException; hard(0) = " + UNSUPPORTED + "reason(0) = 9; "
                + "reason(1) = 2; tearDown(5, 6, 1) = 3; route(0) = 16");
        Script.run("promise 6, no way to the first of two", "net(false) = 0; pin(0, 5, 7); pin(0, 0, 0); pin(0, 0, 2); "
                + "wall(4, 7, 0); wall(4, 7, 1); wall(5, 6, 0); wall(5, 6, 1); route(0) = " + UNSUPPORTED
                + "reason(0) = 9; reason(1) = 1");
        Script.run("promise 6, other wires and pins bar the way", TWO_NETS + "pin(0, 0, 0); pin(0, 2, 0); "
                + "pin(1, 0, 1); pin(1, 1, 1); pin(1, 2, 1); pin(1, 3, 0); route(0) = 2; rip(0) = 1; "
                + "pin(0, 5, 0) = 2; route(0) = "
                + UNSUPPORTED + "reason(0) = 9; reason(1) = 2; wouldRip(0) = throws NoSuchElementException");
    }

    private static void hard() {
        String detour = TWO_NETS + "pin(0, 2, 0); pin(0, 2, 7); pin(1, 0, 5); pin(1, 5, 5); wall(2, 2, 1); "
                + "wall(2, 3, 1); wall(2, 4, 1); wall(2, 5, 1); wall(2, 6, 1); route(0) = 7; ";
        Script.run("promise 7, without a need it rips none", CROSSED + "hard(1) = 0; netOf(1, 3) = 5; netOf(0, 2) = 1; "
                + "netOf(0, 6) = 0");
        Script.run("promise 7, it rips where the way is cheaper so", detour + "wouldCost(1) = 19; wouldRip(1) = 1; "
                + "hard(1) = 1; netOf(1, 3) = 18; netOf(0, 2) = 0; netOf(0, 6) = 1; at(2, 5, 0) = 1");
        Script.run("promise 7, it rips none where the way round is cheaper", detour + "tearDown(2, 4, 1) = 4; "
                + "wouldCost(1) = 9; wouldRip(1) = 0; hard(1) = 0; netOf(1, 3) = 9; netOf(0, 2) = 1");
        String column = "net(false) = 0; net(false) = 1; pin(0, 0, 3); pin(0, 5, 3); pin(1, 2, 0); pin(1, 2, 7); "
                + "wall(0, 2, 0); wall(1, 3, 0); wall(2, 3, 0); wall(3, 3, 0); wall(4, 3, 0); wall(5, 4, 0); "
                + "wall(0, 4, 0); wall(5, 2, 0); route(0) = 5; ";
        Script.run("promise 7, it rips where there is no other way", column + "route(1) = " + UNSUPPORTED
                + "reason(0) = 9; reason(1) = 1; wouldRip(1) = 1; wouldCost(1) = throws NoSuchElementException; "
                + "hard(1) = 1; netOf(1, 3) = 22; netOf(0, 2) = 0; netOf(0, 3) = 0; netOf(0, 4) = 0; netOf(0, 6) = 1; "
                + "at(2, 3, 1) = 1; at(1, 3, 1) = -1; account(7) = 1; account(1) = 1; "
                + "netOf(1, 5) = 1; isHole(2, 4) = true; undo() = 7; netOf(0, 2) = 1; netOf(0, 6) = 0; "
                + "at(2, 3, 1) = 0; netOf(1, 2) = 0");
        Script.run("promise 7, refused", "hard(0) = " + UNSUPPORTED + "reason(0) = 3; reason(1) = 0; net(false) = 0; "
                + "hard(6) = " + UNSUPPORTED + "reason(0) = 3; reason(1) = 6; hard(0) = " + UNSUPPORTED
                + "reason(0) = 8; reason(1) = 0; pin(0, 0, 0); hard(0) = " + UNSUPPORTED + "reason(0) = 8; "
                + "reason(1) = 1; pin(0, 0, 1); hard(0) = 0; netOf(0, 3) = 1; hard(0) = " + UNSUPPORTED
                + "reason(0) = 4; reason(1) = 0; account(8) = 4");
        Script.run("promise 7, a wire too near is ripped", "net(true) = 0; net(false) = 1; pin(0, 2, 0); pin(0, 2, 7); "
                + "pin(1, 5, 2); pin(1, 5, 5); wall(5, 3, 0); wall(5, 3, 1); wall(4, 3, 0); wall(4, 3, 1); "
                + "wall(0, 3, 0); wall(0, 3, 1); wall(1, 3, 0); wall(1, 3, 1); wall(2, 3, 0); wall(3, 3, 0); "
                + "route(1) = 10; at(3, 3, 1) = 1; at(2, 3, 1) = -1; price(0, 2, 3, 1) = 8; route(0) = " + UNSUPPORTED
                + "reason(0) = 9; reason(1) = 1; wouldRip(0) = 2; hard(0) = 2; netOf(0, 3) = 38; netOf(1, 2) = 0; "
                + "netOf(1, 6) = 1; at(2, 3, 1) = 0; at(3, 3, 1) = -1; touches(0) = 0");
    }

    /** Each net crosses walls along a row by two holes, net 0 along the row 4; a longer way of net 5 makes three. */
    private static String rows(String lastPin) {
        StringBuilder calls = new StringBuilder();
        for (int row = 0; row < 6; row++) {
            calls.append("net(false); wall(" + row + ", 1, 0); wall(" + row + ", 3, 1); wall(" + row + ", 5, 0); ");
        }
        for (int row = 0; row < 5; row++) {
            int net = 4 - row;
            calls.append("pin(" + net + ", " + row + ", 0); pin(" + net + ", " + row + ", 6); ");
            calls.append("route(" + net + ") = 16; holes() = " + 2 * (row + 1) + "; ");
        }
        return calls + "pin(5, 5, 0); wall(5, 7, 1); pin(5, " + lastPin + "); ";
    }

    private static void holeLimit() {
        Script.run("promise 6, twelve holes", rows("5, 6") + "route(5) = 16; holes() = 12; holesAgain() = 12; "
                + "netOf(5, 5) = 2; isHole(5, 2) = true; isHole(5, 4) = true; isHole(5, 3) = false; "
                + "shows(5, 0) = \"F#foffo#F.\"; shows(5, 1) = \"Fffo#fofF#\"");
        Script.run("promise 6, thirteen holes", rows("4, 7") + "route(5) = " + UNSUPPORTED + "reason(0) = 10; "
                + "reason(1) = 13; holes() = 10; at(5, 1, 1) = -1; wouldCost(5) = 22; wouldRip(5) = 0; hard(5) = "
                + UNSUPPORTED + "reason(0) = 10; reason(1) = 13; rip(0) = 7; wouldCost(5) = 22; route(5) = 22; "
                + "holes() = 11; netOf(5, 5) = 3");
        Script.run("promise 7, the holes of nets that are ripped do not count", rows("4, 7") + "wall(5, 4, 0); "
                + "wouldRip(5) = 1; route(5) = " + UNSUPPORTED + "reason(0) = 9; reason(1) = 1; hard(5) = 1; "
                + "netOf(0, 6) = 1; netOf(0, 5) = 0; holes() = 11; holesAgain() = 11; isHole(4, 2) = false");
    }

    private static void rip() {
        Script.run("promise 8", CROSSED + "rip(0) = 6; netOf(0, 2) = 0; netOf(0, 3) = 0; netOf(0, 4) = 0; "
                + "netOf(0, 6) = 1; at(2, 0, 0) = 0; at(2, 7, 1) = 0; at(2, 1, 0) = -1; account(7) = 1; "
                + "account(8) = 8; rip(0) = " + UNSUPPORTED + "reason(0) = 11; reason(1) = 0; netOf(0, 6) = 1; "
                + "rip(1) = " + UNSUPPORTED + "reason(0) = 11; reason(1) = 1; rip(2) = " + UNSUPPORTED
                + "reason(0) = 3; reason(1) = 2; rip(-1) = " + UNSUPPORTED + "reason(1) = -1; route(0) = 7; "
                + "rip(0) = 6; netOf(0, 6) = 2; pin(0, 4, 0) = 2");
        Script.run("promise 8, holes go too", "net(false) = 0; pin(0, 0, 0); pin(0, 5, 7); route(0) = 15; holes() = 1; "
                + "netOf(0, 5) = 1; isHole(5, 0) = true; rip(0) = 12; holes() = 0; holesAgain() = 0; "
                + "netOf(0, 5) = 0; isHole(5, 0) = false; account(4) = 92");
    }
}
