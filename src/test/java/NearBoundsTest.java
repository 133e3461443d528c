/** Which cells are side by side, what is near a net, what is open, barred and closed, and what never touches. */
public final class NearBoundsTest {
    /** Places and how many pairs of cells side by side two pins there have; those at the ends of rows are beside none. */
    private static final int[][] PLACES_OF_TWO = {
        {22, 23, 2}, {22, 21, 2}, {22, 12, 2}, {22, 32, 2}, {22, 11, 0}, {22, 13, 0}, {22, 31, 0}, {22, 33, 0},
        {22, 24, 0}, {22, 20, 0}, {22, 2, 0}, {22, 42, 0},
        {0, 1, 2}, {0, 10, 2}, {0, 11, 0}, {7, 6, 2}, {7, 17, 2}, {57, 56, 2}, {57, 47, 2}, {50, 51, 2}, {50, 40, 2},
        {7, 10, 0}, {17, 20, 0}, {47, 50, 0}, {0, 7, 0}, {0, 50, 0}, {7, 57, 0}, {50, 0, 0}, {57, 0, 0}, {50, 7, 0},
        {40, 0, 0}, {57, 7, 0},
    };
    /** Net 0 lies along the row 2 on the layer 0, from the column 1 to 5; net 1 has no pins yet. */
    private static final String PLAIN_WIRE = "net(false); net(false); net(true); " + Bounds.pins(0, 21, 25)
            + "route(0) = 4; ";
    private static final String WIDE_WIRE = "net(true); net(false); net(true); " + Bounds.pins(0, 21, 25)
            + "route(0) = 4; ";

    public static void main(String[] args) {
        sideBySide();
        nearPins();
        layers();
        touchesOfWires();
        pricesOfPins();
        pricesOfWires();
        closedBeforeBarred();
        pricesAtTheEdge();
        pinsNearWires();
        lowestNet();
        wideWays();
        Script.finish();
    }

    private static String pin(int net, int place) {
        return "pin(" + net + ", " + place / 10 + ", " + place % 10 + ")";
    }

    private static void sideBySide() {
        for (int[] two : PLACES_OF_TWO) {
            String calls = pin(0, two[0]) + " = 0; " + pin(1, two[1]) + " = 0; touches(0) = " + two[2] + "; touches(1) = "
                    + two[2] + "; touches(2) = 0";
            Script.run("cells side by side, " + two[0] + " and " + two[1], "net(false); net(false); net(false); " + calls);
            Script.run("cells of one net are no pair", "net(false); " + pin(0, two[0]) + "; " + pin(0, two[1])
                    + "; touches(0) = 0");
        }
        Script.run("a pair with a wall, or with nothing, is none", "net(false); pin(0, 2, 2); " + Bounds.walls(120, 121, 320,
                210, 231) + "touches(0) = 0");
    }

    private static void nearPins() {
        for (int[] two : PLACES_OF_TWO) {
            for (int wide = 0; wide < 4; wide++) {
                String nets = "net(" + (wide % 2 == 1) + "); net(" + (wide > 1) + "); " + pin(0, two[0]) + " = 0; ";
                boolean isNear = wide > 0 && two[2] > 0;
                String price = "price(1, " + two[1] / 10 + ", " + two[1] % 10 + ", ";
                int due = isNear ? -1 : 0;
                Script.run("near a pin, and one of both is wide, " + two[0] + " and " + two[1], nets + price + "0) = " + due
                        + "; " + price + "1) = " + due + "; " + (isNear ? Bounds.refused(pin(1, two[1]), 6, 0)
                        + "netOf(1, 1) = 0; " : pin(1, two[1]) + " = 0; " + Bounds.noReason()) + "netOf(0, 1) = 1");
            }
        }
        Script.run("a net is not too near itself", "net(true); pin(0, 2, 2) = 0; pin(0, 2, 3) = 1; pin(0, 3, 2) = 2; "
                + "pin(0, 1, 2) = 3; price(0, 2, 1, 0) = 0; price(0, 1, 3, 1) = 0; touches(0) = 0; route(0) = 3");
    }

    private static void layers() {
        Script.run("cells of both layers are not side by side", "net(true); net(false); " + Bounds.pins(0, 20, 26)
                + Bounds.pins(1, 3, 53) + "route(0) = 6; price(1, 2, 3, 0) = 8; price(1, 2, 3, 1) = 0; "
                + "price(1, 2, 2, 1) = 0; wouldCost(1) = 5; wouldRip(1) = 0; route(1) = 5; at(2, 3, 0) = 0; "
                + "at(2, 3, 1) = 1; touches(0) = 0; touches(1) = 0; reach(1, 0) = 65");
        Script.run("the last row of the layer 0 is not beside the first of the layer 1", "net(true); net(false); "
                + Bounds.pins(0, 51, 55) + "route(0) = 4; at(5, 3, 0) = 0; at(5, 3, 1) = -1; price(1, 0, 3, 1) = 0; "
                + "price(1, 0, 3, 0) = 0; price(1, 5, 3, 1) = 0; price(1, 4, 3, 0) = 8; price(1, 4, 3, 1) = 0; "
                + "pin(1, 0, 3) = 0; touches(0) = 0");
        Script.run("the first row of the layer 1 is not beside the last of the layer 0", "net(true); net(false); "
                + Bounds.pins(0, 1, 3) + "wall(0, 2, 0); route(0) = 4; at(0, 2, 1) = 0; price(1, 5, 2, 0) = 0; "
                + "price(1, 5, 2, 1) = 0; price(1, 0, 2, 0) = -1; price(1, 1, 2, 0) = 0; price(1, 1, 2, 1) = 8; "
                + "pin(1, 5, 2) = 0");
    }

    private static void touchesOfWires() {
        Script.run("touches with the cell 0 and with the last one", "net(false); net(false); net(false); net(false); "
                + "pin(0, 0, 0); pin(1, 0, 1); pin(2, 5, 7); pin(3, 5, 6); touches(0) = 2; touches(1) = 2; "
                + "touches(2) = 2; touches(3) = 2; pin(1, 1, 0); touches(0) = 4; touches(1) = 4");
        Script.run("touches with two nets", "net(false); net(false); net(false); pin(0, 2, 2); pin(1, 2, 1); pin(2, 2, 3); "
                + "touches(0) = 4; touches(1) = 2; touches(2) = 2; pin(1, 1, 2); pin(2, 3, 2); touches(0) = 8");
        Script.run("touches of wires on one layer alone", PLAIN_WIRE + Bounds.pins(1, 31, 35) + "touches(1) = 4; "
                + "touches(0) = 4; route(1) = 4; touches(0) = 7; touches(1) = 7; at(3, 3, 0) = 1; at(3, 3, 1) = -1; "
                + "rip(0) = 3; touches(0) = 4; touches(1) = 4");
    }

    private static void pricesOfPins() {
        Script.run("closed: a wall, a pin of another net, near one if one of both is wide",
                "net(false); net(false); net(true); pin(0, 2, 2); wall(4, 4, 0); price(0, 4, 4, 0) = -1; "
                + "price(1, 4, 4, 0) = -1; price(2, 4, 4, 0) = -1; price(0, 4, 4, 1) = 0; price(1, 2, 2, 0) = -1; "
                + "price(1, 2, 2, 1) = -1; price(2, 2, 2, 0) = -1; price(0, 2, 2, 0) = 0; price(0, 2, 2, 1) = 0; "
                + "price(1, 2, 3, 0) = 0; price(1, 2, 3, 1) = 0; price(2, 2, 3, 0) = -1; price(2, 2, 3, 1) = -1; "
                + "price(2, 1, 2, 0) = -1; price(2, 3, 2, 1) = -1; price(2, 2, 1, 0) = -1; price(2, 1, 1, 0) = 0; "
                + "price(2, 3, 3, 0) = 0; price(2, 2, 4, 0) = 0; price(0, 2, 3, 0) = 0; price(2, 4, 3, 0) = 0");
        Script.run("closed near a pin of a wide net, but not for itself", "net(true); net(false); net(true); pin(0, 2, 2); "
                + "price(1, 2, 2, 0) = -1; price(1, 2, 3, 0) = -1; price(1, 2, 3, 1) = -1; price(2, 2, 3, 0) = -1; "
                + "price(0, 2, 3, 0) = 0; price(0, 2, 2, 0) = 0; price(1, 2, 4, 0) = 0; price(1, 3, 3, 0) = 0");
    }

    private static void pricesOfWires() {
        Script.run("barred: the wire of another net, near it if the net itself is wide", PLAIN_WIRE
                + "price(1, 2, 3, 0) = 8; price(1, 2, 3, 1) = 0; price(1, 1, 3, 0) = 0; price(1, 3, 3, 0) = 0; "
                + "price(2, 2, 3, 0) = 8; price(2, 2, 3, 1) = 0; price(2, 1, 3, 0) = 8; price(2, 3, 3, 0) = 8; "
                + "price(2, 1, 3, 1) = 0; price(2, 0, 3, 0) = 0; price(2, 4, 3, 0) = 0; price(0, 2, 3, 0) = 0; "
                + "price(0, 1, 3, 0) = 0; rip(0) = 3; price(1, 2, 3, 0) = 0; price(2, 1, 3, 0) = 0");
        Script.run("barred: the wire of another net, near it if that is wide", WIDE_WIRE + "price(1, 2, 3, 0) = 8; "
                + "price(1, 2, 3, 1) = 0; price(1, 1, 3, 0) = 8; price(1, 3, 3, 0) = 8; price(1, 1, 3, 1) = 0; "
                + "price(1, 0, 3, 0) = 0; price(2, 1, 3, 0) = 8; price(0, 1, 3, 0) = 0; price(0, 2, 3, 0) = 0; "
                + "rip(0) = 3; price(1, 2, 3, 0) = 0; price(1, 1, 3, 0) = 0");
    }

    private static void closedBeforeBarred() {
        // The wire of net 0 is in the cell, and a pin of net 1 beside it.
        Script.run("a cell that is closed is not barred", PLAIN_WIRE + "net(false) = 3; pin(1, 1, 3) = 0; "
                + "price(2, 2, 3, 0) = -1; price(3, 2, 3, 0) = 8; price(1, 2, 3, 0) = 8; price(2, 2, 3, 1) = -1; "
                + "price(3, 2, 3, 1) = 0; price(2, 2, 2, 0) = -1; price(3, 2, 2, 0) = 8; price(2, 3, 3, 0) = 8");
        Script.run("a wall near a wire is closed", WIDE_WIRE + "wall(1, 3, 0); price(1, 1, 3, 0) = -1; "
                + "price(0, 1, 3, 0) = -1; price(2, 1, 3, 0) = -1");
        String corner = Bounds.pins(0, 0, 55);
        Script.run("over walls no way goes, not even a hard one", "net(false); " + corner + Bounds.walls(10, 11, 100, 101)
                + noWay(0));
        Script.run("over a pin of another net no way goes", "net(false); net(false); " + corner + Bounds.pins(1, 1, 10)
                + noWay(0));
        Script.run("near a pin of a wide net no way goes", "net(false); net(true); " + corner + "pin(1, 1, 1); " + noWay(0)
                + "undo(); hard(0) = 0");
        Script.run("near a pin no way of a wide net goes", "net(true); net(false); " + corner + "pin(1, 1, 1); " + noWay(0)
                + "undo(); hard(0) = 0");
        Script.run("near a pin a way goes if none is wide", "net(false); net(false); " + corner + "pin(1, 1, 1); "
                + "reach(0, 0) = 94; wouldRip(0) = 0; hard(0) = 0");
    }

    private static String noWay(int net) {
        return "reach(" + net + ", 0) = 2; " + Bounds.element("wouldCost(" + net + ")") + Bounds.element("wouldRip(" + net
                + ")") + Bounds.refused("route(" + net + ")", 9, 1) + Bounds.refused("hard(" + net + ")", 9, 1);
    }

    private static void pricesAtTheEdge() {
        Script.run("near over the end of a row is not near", "net(true); net(true); pin(0, 2, 7); price(1, 3, 0, 0) = 0; "
                + "price(1, 2, 0, 0) = 0; price(1, 2, 6, 0) = -1; price(1, 1, 7, 1) = -1; price(1, 3, 7, 0) = -1; "
                + "undo(); pin(0, 3, 0); price(1, 2, 7, 0) = 0; price(1, 2, 7, 1) = 0; price(1, 3, 7, 0) = 0; "
                + "price(1, 3, 1, 0) = -1; price(1, 2, 0, 0) = -1; price(1, 4, 0, 0) = -1");
        Script.run("near over the end of a column is not near", "net(true); net(true); pin(0, 0, 3); price(1, 5, 3, 0) = 0; "
                + "price(1, 5, 3, 1) = 0; price(1, 1, 3, 0) = -1; undo(); pin(0, 5, 3); price(1, 0, 3, 0) = 0; "
                + "price(1, 0, 3, 1) = 0; price(1, 4, 3, 0) = -1; price(1, 4, 3, 1) = -1");
    }

    private static void pinsNearWires() {
        Script.run("a pin too near a wire on the layer 0", PLAIN_WIRE + Bounds.refused("pin(2, 1, 3)", 6, 0)
                + Bounds.refused("pin(2, 3, 3)", 6, 0) + Bounds.refused("pin(2, 2, 3)", 5, 0) + "pin(2, 4, 3) = 0; "
                + "pin(1, 1, 3) = 0; pin(1, 3, 2) = 1");
        Script.run("a pin too near a wide wire on the layer 0", WIDE_WIRE + Bounds.refused("pin(1, 1, 3)", 6, 0)
                + Bounds.refused("pin(1, 3, 3)", 6, 0) + Bounds.refused("pin(2, 3, 3)", 6, 0) + "pin(1, 4, 3) = 0; "
                + "pin(1, 0, 3) = 1");
        Script.run("a pin too near a wide wire on the layer 1", "net(true); net(false); " + Bounds.pins(0, 2, 42)
                + "route(0) = 4; at(2, 2, 1) = 0; at(2, 2, 0) = -1; " + Bounds.refused("pin(1, 2, 3)", 6, 0)
                + Bounds.refused("pin(1, 2, 1)", 6, 0) + Bounds.refused("pin(1, 2, 2)", 5, 0) + "pin(1, 2, 4) = 0; "
                + "rip(0) = 3; pin(1, 2, 2) = 1");
    }

    private static void lowestNet() {
        Script.run("the lowest such net", "net(false); net(false); net(false); net(false); net(false); net(true); "
                + "pin(4, 2, 2); pin(3, 1, 3); pin(2, 3, 3); pin(1, 2, 4); " + Bounds.refused("pin(5, 2, 3)", 6, 1)
                + "undo(); " + Bounds.refused("pin(5, 2, 3)", 6, 2) + "undo(); " + Bounds.refused("pin(5, 2, 3)", 6, 3)
                + "undo(); " + Bounds.refused("pin(5, 2, 3)", 6, 4) + "undo(); pin(5, 2, 3) = 0");
        Script.run("the lowest such net, of the others one that is wide", "net(false); net(true); net(true); net(false); "
                + "net(false); net(true); pin(0, 2, 2); pin(5, 2, 4); " + Bounds.refused("pin(3, 2, 3)", 6, 5)
                + "pin(2, 1, 3); " + Bounds.refused("pin(3, 2, 3)", 6, 2) + Bounds.refused("pin(1, 2, 3)", 6, 0)
                + "undo(); undo(); pin(3, 2, 3) = 0");
        // Net 4 lies on the layer 0 and net 0 on the layer 1, both beside the place (2, 3).
        Script.run("too near: of the cell on the layer 0 first", "net(false); net(false); net(false); net(false); "
                + "net(false); net(true); " + Bounds.pins(0, 2, 42) + Bounds.pins(4, 31, 36) + "route(0) = 4; route(4) = 5; "
                + "at(3, 3, 0) = 4; at(2, 2, 1) = 0; at(2, 2, 0) = -1; " + Bounds.refused("pin(5, 2, 3)", 6, 4)
                + "rip(4) = 4; " + Bounds.refused("pin(5, 2, 3)", 6, 0) + "rip(0) = 3; pin(5, 2, 3) = 0");
    }

    private static void wideWays() {
        Script.run("a wide net keeps away from others", "net(true); net(false); " + Bounds.pins(0, 20, 26) + "pin(1, 2, 3); "
                + "wouldCost(0) = 14; route(0) = 14; touches(0) = 0; touches(1) = 0; at(1, 3, 0) = -1; at(3, 3, 0) = -1; "
                + "at(0, 3, 0) = 0; at(4, 3, 0) = -1");
        Script.run("others keep away from a wide net", "net(false); net(true); " + Bounds.pins(0, 20, 26) + "pin(1, 2, 3); "
                + "route(0) = 14; touches(0) = 0; at(0, 3, 0) = 0; at(1, 3, 0) = -1");
        Script.run("others need not keep away where none is wide", "net(false); net(false); " + Bounds.pins(0, 20, 26)
                + "pin(1, 2, 3); route(0) = 10; touches(0) = 2; at(1, 3, 0) = 0");
    }
}
