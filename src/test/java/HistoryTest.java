/** Promises 29 to 34: means, shares, accounts, undo, save and restore. */
public final class HistoryTest {
    private static final String STATE = "throws IllegalStateException; ";
    private static final String ARGUMENT = "throws IllegalArgumentException; ";
    private static final String TWO = "net(false) = 0; net(false) = 1; pin(0, 0, 0); pin(0, 0, 3); pin(1, 2, 0); "
            + "pin(1, 2, 4); ";

    public static void main(String[] args) {
        meanCost();
        filledShare();
        account();
        undo();
        undoOfEach();
        save();
        restore();
        Script.finish();
    }

    private static void meanCost() {
        Script.run("promise 29", "meanCost() = throws ArithmeticException; " + TWO
                + "meanCost() = throws ArithmeticException; route(0) = 3; meanCost() = 3.0; route(1) = 4; "
                + "meanCost() = 3.5; net(false) = 2; pin(2, 5, 0); pin(2, 5, 3); meanCost() = 3.5; route(2) = 3; "
                + "meanCost() = 3.3333333; rip(0); rip(1); rip(2); meanCost() = throws ArithmeticException");
    }

    private static void filledShare() {
        Script.run("promise 30", "filledShare() = 0.0; net(false); filledShare() = 0.0; pin(0, 0, 0); "
                + "filledShare() = 0.020833333333333332; pin(0, 0, 3); wall(5, 5, 1); "
                + "filledShare() = 0.052083333333333336; route(0); filledShare() = 0.07291666666666667; "
                + "tearDown(5, 5, 1); filledShare() = 0.0625");
    }

    private static void account() {
        Script.run("promise 31", TWO + "route(0) = 3; route(1) = 4; wall(5, 5, 0); wall(5, 5, 1); net(true); "
                + "type(\"r\"); account(0) = 3; account(1) = 2; account(2) = 4; account(3) = 2; account(4) = 81; "
                + "account(5) = 5; account(6) = 7; account(7) = 0; account(8) = 8; account(9) = 1; rip(0); rip(1); "
                + "route(0); rip(0); account(7) = 3; account(6) = 0; account(1) = 0; account(5) = 0; account(4) = 86; "
                + "account(-1) = " + ARGUMENT + "account(10) = " + ARGUMENT + "account(2147483647) = " + ARGUMENT);
    }

    private static void undo() {
        Script.run("promise 32", "undo() = " + STATE + "net(false); account(8) = 1; undo() = 0; undo() = " + STATE
                + "account(0) = 0; net(true) = 0; netOf(0, 0) = 1; pin(0, 0, 0) = 0; undo() = 1; pin(0, 1, 1) = 0; "
                + "pinOf(0, 0) = 9; at(0, 0, 0) = -1; undo() = 1; undo() = 0; net(false) = 0; netOf(0, 0) = 0; "
                + "netOf(0, 1) = 0");
        Script.run("promise 32, the latest eight", "wall(0, 0, 0); wall(0, 1, 0); wall(0, 2, 0); wall(0, 3, 0); "
                + "wall(0, 4, 0); wall(0, 5, 0); wall(0, 6, 0); wall(0, 7, 0); account(8) = 8; wall(1, 0, 0) = 9; "
                + "account(8) = 8; wall(1, 1, 0) = 10; wall(1, 1, 0) = throws UnsupportedOperationException; "
                + "undo() = 7; undo() = 6; undo() = 5; undo() = 4; account(3) = 6; wall(5, 5, 0) = 7; account(8) = 5; "
                + "undo() = 4; undo() = 3; undo() = 2; undo() = 1; undo() = 0; account(3) = 2; at(0, 1, 0) = -2; "
                + "at(0, 2, 0) = -1; undo() = " + STATE + "account(3) = 2");
        Script.run("promise 32, what stays", TWO + "type(\"w0\"); commands() = " + ARGUMENT + "type(\"r0\"); "
                + "route(5) = throws UnsupportedOperationException; line(0, 0) = 8; undo() = 5; account(9) = 2; "
                + "faultPosition() = 2; reason(1) = 5; character(3) = 'A'; at(2, 4, 0) = -1");
    }

    private static void undoOfEach() {
        Script.run("promise 32, each of the changes", TWO + "wall(5, 5, 0); tearDown(5, 5, 0); undo() = 7; "
                + "at(5, 5, 0) = -2; undo() = 6; at(5, 5, 0) = -1; route(0) = 3; undo() = 6; netOf(0, 2) = 0; "
                + "netOf(0, 3) = 0; netOf(0, 4) = 0; at(0, 1, 0) = -1; hard(0) = 0; undo() = 6; netOf(0, 2) = 0; "
                + "route(0) = 3; rip(0) = 2; undo() = 7; netOf(0, 2) = 1; netOf(0, 3) = 3; netOf(0, 6) = 0; "
                + "at(0, 1, 0) = 0; account(7) = 0; type(\"w000\"); commands() = throws UnsupportedOperationException; "
                + "account(8) = 7; type(\"w550;x0\"); commands() = 2; undo() = 7; at(5, 5, 0) = -1; netOf(0, 2) = 1");
        Script.run("promise 32, questions are none", TWO + "save(); wouldCost(0); wouldRip(0); reach(0, 0); holes(); "
                + "line(0, 0); account(8) = 6; undo() = 5");
    }

    private static void save() {
        Script.run("promise 33", "save() = 0; net(false); save() = 1; net(true); save() = 2; undo(); save() = 1; "
                + "account(8) = 1; undo() = 0; restore() = 1; netOf(0, 0) = 0");
    }

    private static void restore() {
        Script.run("promise 34", "restore() = " + STATE + TWO + "restore() = " + STATE + "route(0); save() = 2; "
                + "wall(5, 5, 0); rip(0); net(true); pin(2, 4, 4); account(8) = 8; restore() = 2; account(8) = 0; "
                + "undo() = " + STATE + "netOf(0, 2) = 1; netOf(0, 6) = 0; account(3) = 0; account(2) = 4; "
                + "at(4, 4, 0) = -1; net(true) = 2; undo() = 0; rip(0) = 2; account(8) = 1; restore() = 2; "
                + "netOf(0, 2) = 1; account(8) = 0; at(0, 1, 0) = 0");
        Script.run("promise 34, undo leaves the snapshot", "net(false); save() = 1; undo() = 0; account(0) = 0; "
                + "restore() = 1; account(0) = 1; undo() = " + STATE + "wall(0, 0, 0); restore() = 1; account(3) = 0");
        Script.run("promise 34, each thing comes back", "net(true); net(false); pin(0, 1, 1); pin(0, 1, 4); "
                + "pin(1, 3, 0); pin(1, 3, 3); route(0) = 3; route(1) = 3; rip(1) = 2; save() = 2; undo(); undo(); "
                + "undo(); undo(); undo(); undo(); undo() = 1; netOf(0, 1) = 0; undo() = 0; net(false) = 1; "
                + "pin(0, 5, 5) = 0; "
                + "undo(); undo(); restore() = 2; netOf(0, 0) = 1; netOf(0, 1) = 2; pinOf(0, 0) = 9; pinOf(1, 1) = 27; "
                + "netOf(0, 2) = 1; netOf(0, 3) = 3; netOf(0, 4) = 2; netOf(1, 6) = 1; at(1, 2, 0) = 0; route(1) = 3");
        Script.run("promise 34, a wide net comes back as one", "net(true); save(); undo(); net(false) = 0; "
                + "netOf(0, 0) = 0; restore() = 1; netOf(0, 0) = 1");
        Script.run("promise 34, a pin comes back to its place", "net(false); pin(0, 1, 1); save(); undo(); "
                + "pin(0, 2, 2) = 0; pinOf(0, 0) = 18; restore() = 1; pinOf(0, 0) = 9; at(1, 1, 1) = 0; "
                + "at(2, 2, 0) = -1");
        Script.run("promise 34, pins of the last net", "net(false); net(false); net(false); net(false); net(false); "
                + "net(false); pin(5, 0, 1); pin(5, 0, 2); pin(5, 0, 3); pin(5, 0, 4) = 3; save() = 6; undo(); undo(); "
                + "undo(); undo(); pin(5, 4, 1); pin(5, 4, 2); pin(5, 4, 3); pin(5, 4, 4) = 3; restore() = 6; "
                + "pinOf(5, 0) = 1; pinOf(5, 3) = 4; route(5) = 3; at(4, 4, 0) = -1");
        Script.run("promise 34, what stays", TWO + "save(); type(\"w0\"); commands() = " + ARGUMENT + "type(\"r0\"); "
                + "route(5) = throws UnsupportedOperationException; line(0, 0) = 8; restore() = 2; account(9) = 2; "
                + "faultPosition() = 2; reason(0) = 3; reason(1) = 5; character(3) = 'A'");
        Script.run("promise 34, the eight changes after it", "save() = 0; wall(0, 0, 0); wall(0, 1, 0); wall(0, 2, 0); "
                + "restore() = 0; wall(1, 0, 0); wall(1, 1, 0); wall(1, 2, 0); wall(1, 3, 0); wall(1, 4, 0); "
                + "wall(1, 5, 0); wall(1, 6, 0); wall(1, 7, 0); wall(2, 0, 0); wall(2, 1, 0) = 10; undo() = 7; "
                + "undo(); undo(); undo(); undo(); undo(); undo() = 1; undo() = 0; account(3) = 2; at(1, 1, 0) = -2; "
                + "at(0, 0, 0) = -1; undo() = " + STATE);
    }
}
