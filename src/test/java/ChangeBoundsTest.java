/** What can be undone and what not, the eight changes that are kept, and the snapshot. */
public final class ChangeBoundsTest {
    public static void main(String[] args) {
        eightOfMany();
        backAndOn();
        refusedWhenFull();
        eachChange();
        pinsTakenBack();
        noChanges();
        whatStays();
        everyNumberComesBack();
        noSnapshot();
        snapshotStays();
        snapshotAndChanges();
        laterChanges();
        manyCalls();
        Script.finish();
    }

    private static String wall(int number) {
        return "wall(" + number / 16 + ", " + number / 2 % 8 + ", " + number % 2 + ") = " + (number + 1) + "; ";
    }

    private static void eightOfMany() {
        for (int count = 0; count <= 40; count++) {
            StringBuilder calls = new StringBuilder();
            for (int i = 0; i < count; i++) {
                calls.append("account(8) = " + Math.min(i, 8) + "; " + wall(i));
            }
            int kept = Math.min(count, 8);
            calls.append("account(8) = " + kept + "; ");
            for (int i = 1; i <= kept; i++) {
                calls.append("undo() = " + (kept - i) + "; account(3) = " + (count - i) + "; account(8) = " + (kept - i) + "; ");
                calls.append("at(" + (count - i) / 16 + ", " + (count - i) / 2 % 8 + ", " + (count - i) % 2 + ") = -1; ");
            }
            calls.append(Bounds.state("undo()") + "account(3) = " + (count - kept) + "; account(8) = 0; ");
            Script.run("the latest 8 of " + count + " changes", calls + Bounds.state("undo()"));
        }
    }

    private static void backAndOn() {
        for (int start = 0; start < 20; start++) {
            for (int back = 1; back <= 8; back++) {
                StringBuilder calls = new StringBuilder();
                int count = 8 + start;
                for (int i = 0; i < count; i++) {
                    calls.append(wall(i));
                }
                calls.append("undo(); ".repeat(back)).append("account(8) = " + (8 - back) + "; ");
                count -= back;
                for (int i = 0; i < 3; i++) {
                    calls.append(wall(count + i));
                }
                count += 3;
                int kept = Math.min(8, 8 - back + 3);
                calls.append("account(8) = " + kept + "; ");
                for (int i = 1; i <= kept; i++) {
                    calls.append("undo() = " + (kept - i) + "; account(3) = " + (count - i) + "; ");
                }
                Script.run("back " + back + " and on", calls + Bounds.state("undo()"));
            }
        }
    }

    private static void refusedWhenFull() {
        String eight = "net(true); net(false); " + Bounds.pins(0, 0, 2) + Bounds.pins(1, 30) + "route(0) = 2; wall(5, 5, 0); "
                + "wall(5, 5, 1); account(8) = 8; ";
        for (String refused : new String[] {Bounds.refused("pin(1, 0, 3)", 6, 0), Bounds.refused("wall(0, 1, 0)", 5, 0),
            Bounds.refused("tearDown(0, 0, 0)", 7, 0), Bounds.refused("route(1)", 8, 1), Bounds.refused("hard(0)", 4, 0),
            Bounds.refused("rip(1)", 11, 1), Bounds.refusedText("w551;w550", 5, -1, 0), Bounds.refusedText("x0;r0;r0", 4, 0, 2),
            Bounds.faultyText("x0;", 3), "net(true); net(true); net(true); net(true); undo(); undo(); undo(); undo(); "
                + "account(8) = 4; "}) {
            boolean isFull = !refused.startsWith("net");
            StringBuilder calls = new StringBuilder(eight + refused.repeat(isFull ? 3 : 1));
            for (int left = isFull ? 7 : 3; left >= 0; left--) {
                calls.append("undo() = " + left + "; ");
            }
            Script.run("a call that is refused is no change", calls + Bounds.state("undo()") + "account(0) = "
                    + (isFull ? 0 : 2) + "; account(2) = " + (isFull ? 0 : 2) + "; account(3) = 0");
        }
        Script.run("a seventh net is no change", Bounds.SIX_NETS + "wall(0, 0, 0); wall(0, 0, 1); "
                + Bounds.refused("net(false)", 2, 6).repeat(3) + "account(8) = 8; undo(); undo(); undo(); undo(); undo(); "
                + "undo(); undo(); undo() = 0; account(0) = 0");
    }

    /** Two boards must show the same: one that did not make the change, and one that took it back. */
    private static void undone(String setup, String change) {
        WireBoard before = new WireBoard();
        WireBoard after = new WireBoard();
        Script.runOn(before, "before " + change, setup);
        Script.runOn(after, "after " + change, setup);
        int kept = after.account(8);
        Script.runOn(after, change, change);
        String shown = View.ofBoard(after);
        Script.check("a change of what is shown: " + change, !shown.equals(View.ofBoard(before)));
        Script.check("a change that is kept: " + change, after.account(8) == Math.min(8, kept + 1));
        Script.check("undo of " + change, after.undo() == Math.min(7, kept));
        Script.check("what there was before " + change, View.ofBoard(after).equals(View.ofBoard(before)));
        Script.runOn(after, change + " once more", change);
        Script.check("what there was after " + change, View.ofBoard(after).equals(shown));
    }

    private static void eachChange() {
        String setup = "net(false); net(false); net(true); " + Bounds.pins(0, 20, 27) + Bounds.pins(1, 5, 55)
                + Bounds.pins(2, 40, 2) + Bounds.walls(211, 221, 231, 241, 251, 261) + "route(0) = 7; ";
        for (String more : new String[] {"undo(); undo(); undo(); undo(); undo(); undo(); undo(); undo(); "
            + Bounds.walls(121, 131, 141), "", "wall(0, 0, 0); wall(0, 0, 1); wall(0, 1, 0); "}) {
            undone(setup + more, "net(true) = 3");
            undone(setup + more, "net(false) = 3");
            undone(setup + more, "pin(1, 0, 7) = 2");
            undone(setup + more, "wall(5, 0, 1)");
        }
        undone(setup, "tearDown(2, 1, 1) = 5");
        undone(setup, "rip(0) = 6");
        undone(setup, "hard(1) = 1");
        undone(setup + "hard(1) = 1; ", "rip(1)");
        undone(setup + "hard(1) = 1; rip(1); ", "route(0) = 7");
        undone(setup + "rip(0); ", "route(2)");
        undone(setup + "rip(0); route(2); ", "hard(1)");
        undone(setup, "type(\"w000;x0;r1;p2@33\"); commands() = 4");
        undone(setup, "type(\"h1\"); commands() = 1");
        undone("", "net(false) = 0");
        undone("", "wall(5, 7, 1) = 1");
        undone("", "type(\"w000\"); commands() = 1");
    }

    /** What was a pin, and is none any more, must not be taken for one where a wire lies later. */
    private static void pinsTakenBack() {
        for (int place = 0; place < 48; place++) {
            int beside = place % 8 < 2 ? place + 1 : place - 1;
            String at = place / 8 + ", " + place % 8;
            Script.run("a place is free again when a pin is taken back, " + at, "net(false); save(); pin(0, " + at + "); "
                    + "wall(" + beside / 8 + ", " + beside % 8 + ", 1); undo(); undo(); wall(" + at + ", 0) = 1; wall(" + at
                    + ", 1) = 2; restore(); wall(" + at + ", 0) = 1; line(" + place / 8 + ", 0) = 8; character(" + place % 8
                    + ") = '#'; undo(); net(true) = 1; pin(1, " + at + ") = 0; at(" + at + ", 1) = 1");
            if (place % 8 > 0 && place % 8 < 7) {
                int left = place / 8 * 10 + place % 8 - 1;
                Script.run("a wire lies where a pin was taken back, " + at, "net(false); net(false); " + Bounds.pins(0, left,
                        left + 2) + "pin(1, " + at + ") = 0; undo(); route(0) = 2; netOf(0, 4) = 1; at(" + at + ", 0) = 0; line("
                        + place / 8 + ", 0) = 8; character(" + place % 8 + ") = 'a'; price(1, " + at + ", 0) = 8; rip(0) = 1; at("
                        + at + ", 0) = -1");
            }
        }
    }

    private static void noChanges() {
        Script.run("other calls are no changes", "net(false); " + Bounds.pins(0, 0, 2) + "wouldCost(0); wouldRip(0); "
                + "reach(0, 0); save(); netOf(0, 0); at(0, 0, 0); append('r'); line(0, 0); character(0); holes(); ranked(0); "
                + "cellsOf(0); price(0, 0, 0, 0); touches(0); faultPosition(); filledShare(); account(8) = 3; undo() = 2; "
                + "netOf(0, 1) = 1");
        Script.run("nothing can be undone at first", Bounds.state("undo()") + "account(8) = 0; save() = 0; "
                + Bounds.state("undo()") + "append('r') = 1; line(0, 0) = 8; " + Bounds.state("undo()") + "account(9) = 1");
        Script.run("a text is one change", "net(false); type(\"w000;w001;w010\"); commands() = 3; account(8) = 2; undo() = 1; "
                + "account(3) = 0; account(0) = 1; undo() = 0; account(0) = 0");
        Script.run("undo itself is no change", "net(false); wall(0, 0, 0); undo() = 1; account(8) = 1; undo() = 0; "
                + Bounds.state("undo()"));
    }

    private static void whatStays() {
        String texts = Bounds.faultyText("w0", 2) + "type(\"w00\"); " + Bounds.refused("route(5)", 3, 5) + "line(0, 0) = 8; "
                + "character(2) = '.'; ";
        String stay = "account(9) = 3; faultPosition() = 2; " + Bounds.reason(3, 5, 0) + "character(0) = 'A'; "
                + "character(2) = '.'; character(3) = 'A'; " + Bounds.index("character(8)") + "append('0') = 4; commands() = 1; "
                + "at(0, 0, 0) = -2; ";
        Script.run("they stay when a change is undone", "net(false); " + Bounds.pins(0, 0, 3) + texts + "undo(); undo(); "
                + "undo() = 0; at(0, 0, 0) = -1; " + stay);
        Script.run("they stay when a snapshot comes back", "save(); net(false); " + Bounds.pins(0, 0, 3) + texts
                + "restore() = 0; at(0, 0, 0) = -1; " + stay);
        Script.run("they are not saved", "save(); type(\"w\"); restore(); account(9) = 1; append('0') = 2; save(); "
                + Bounds.faulty(2) + "restore(); account(9) = 0; faultPosition() = 2");
    }

    private static void everyNumberComesBack() {
        for (int net = 0; net < 6; net++) {
            String n = "(" + net + ", ";
            String routed = Bounds.SIX_NETS + Bounds.pins(net, 0, 44) + "route(" + net + ") = 11; ";
            String numbers = "netOf" + n + "1) = 2; netOf" + n + "2) = 1; netOf" + n + "3) = 11; netOf" + n + "4) = 8; netOf"
                    + n + "5) = 1; netOf" + n + "6) = 0; holes() = 1; holesAgain() = 1; isHole(4, 0) = true; account(5) = 8; ";
            String none = "netOf" + n + "2) = 0; netOf" + n + "3) = 0; netOf" + n + "4) = 0; netOf" + n + "5) = 0; netOf"
                    + n + "6) = 1; holes() = 0; holesAgain() = 0; isHole(4, 0) = false; account(5) = 0; ";
            Script.run("every number of a net comes back by undo", routed + numbers + "rip(" + net + ") = 8; " + none
                    + "undo(); " + numbers + "undo(); netOf" + n + "2) = 0; netOf" + n + "3) = 0; netOf" + n + "4) = 0; netOf"
                    + n + "5) = 0; netOf" + n + "6) = 0; holes() = 0; holesAgain() = 0; isHole(4, 0) = false");
            Script.run("every number of a net comes back by restore", routed + "save() = 6; rip(" + net + ") = 8; " + none
                    + "restore() = 6; " + numbers + "rip(" + net + ") = 8; save() = 6; route(" + net + ") = 11; rip(" + net
                    + "); restore() = 6; " + none + "route(" + net + ") = 11");
            Script.run("whether it is wide comes back", "net(false); ".repeat(net) + "net(true) = " + net + "; save() = "
                    + (net + 1) + "; undo(); net(false) = " + net + "; netOf" + n + "0) = 0; restore(); netOf" + n + "0) = 1; "
                    + "wall(0, 0, 0); undo(); netOf" + n + "0) = 1");
            Script.run("its pins come back", Bounds.SIX_NETS + Bounds.pins(net, 1, 12, 23, 34) + "save(); undo(); undo(); "
                    + "undo(); undo(); " + Bounds.pins(net, 51, 42, 33, 24) + "wall(0, 0, 0); undo(); pinOf" + n + "0) = 41; "
                    + "pinOf" + n + "3) = 20; restore(); pinOf" + n + "0) = 1; pinOf" + n + "1) = 10; pinOf" + n + "2) = 19; "
                    + "pinOf" + n + "3) = 28; " + Bounds.index("pinOf" + n + "4)") + "at(5, 1, 0) = -1; at(0, 1, 1) = " + net);
        }
    }

    private static void noSnapshot() {
        Script.run("there is no snapshot", Bounds.state("restore()") + "net(false); undo(); " + Bounds.state("restore()")
                + "account(0) = 0; save() = 0; net(false); restore() = 0; account(0) = 0");
        Script.run("an empty board can be saved", "save() = 0; restore() = 0; restore() = 0; " + Bounds.state("undo()")
                + Bounds.SIX_NETS + "save() = 6; restore() = 6; account(0) = 6; " + Bounds.refused("net(true)", 2, 6));
    }

    private static void snapshotStays() {
        Script.run("the snapshot is kept", "net(false); save() = 1; wall(0, 0, 0); restore() = 1; wall(1, 0, 0) = 1; "
                + "restore() = 1; account(3) = 0; net(true); restore() = 1; restore() = 1; account(0) = 1");
        Script.run("in place of an earlier snapshot", "net(false); save() = 1; wall(0, 0, 0); save() = 1; tearDown(0, 0, 0) = 0; "
                + "restore() = 1; account(3) = 1; net(false); save() = 2; restore() = 2; "
                + "account(3) = 1");
        Script.run("undo leaves the snapshot, and save the changes", "net(false); wall(0, 0, 0); save() = 1; account(8) = 2; "
                + "undo() = 1; undo() = 0; account(0) = 0; restore() = 1; account(3) = 1; account(8) = 0; "
                + Bounds.state("undo()"));
    }

    private static void snapshotAndChanges() {
        for (int before = 0; before <= 18; before++) {
            StringBuilder calls = new StringBuilder("net(false); save() = 1; ");
            for (int i = 0; i < before; i++) {
                calls.append(wall(i));
            }
            calls.append("restore() = 1; account(8) = 0; account(3) = 0; " + Bounds.state("undo()"));
            for (int i = 0; i < 11; i++) {
                calls.append(wall(i)).append("account(8) = " + Math.min(8, i + 1) + "; ");
            }
            for (int left = 7; left >= 0; left--) {
                calls.append("undo() = " + left + "; account(3) = " + (left + 3) + "; ");
            }
            Script.run("restore forgets the changes, and eight come after it", calls + Bounds.state("undo()")
                    + "restore() = 1; account(3) = 0; account(0) = 1");
        }
    }

    private static void laterChanges() {
        String setup = "net(false); net(true); " + Bounds.pins(0, 0, 44) + Bounds.pins(1, 26, 56) + "route(0) = 11; "
                + "wall(1, 1, 0); ";
        WireBoard saved = new WireBoard();
        WireBoard board = new WireBoard();
        Script.runOn(saved, "what is saved", setup);
        Script.runOn(board, "what comes later", setup + "save() = 2; rip(0); route(1); tearDown(1, 1, 0); net(false); "
                + "pin(2, 0, 7); pin(0, 3, 3); hard(0); wall(5, 0, 0); type(\"x0;x1\"); commands(); restore() = 2");
        Script.check("later changes do not come into the snapshot", View.ofBoard(saved).equals(View.ofBoard(board)));
        Script.runOn(board, "what comes later still", "rip(0); route(1); tearDown(1, 1, 0); net(false); pin(2, 0, 7); "
                + "pin(0, 3, 3); hard(0); wall(5, 0, 0); undo(); undo(); restore() = 2");
        Script.check("nor changes after restore", View.ofBoard(saved).equals(View.ofBoard(board)));
    }

    /** An object is used for at most 512 calls. */
    private static void manyCalls() {
        StringBuilder calls = new StringBuilder("net(false); " + Bounds.pins(0, 0, 44));
        for (int i = 0; i < 250; i++) {
            calls.append("route(0) = 11; rip(0) = 8; ");
        }
        Script.run("512 calls", calls + "netOf(0, 6) = 250; account(7) = 250; account(8) = 8; undo() = 7; undo() = 6; "
                + "netOf(0, 6) = 249; undo() = 5; netOf(0, 6) = 248; rip(0) = 8");
    }
}
