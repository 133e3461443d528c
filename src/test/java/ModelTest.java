import java.util.Map;
import java.util.TreeMap;

/** Long runs of calls, the same in every run of the test, of which each answer must be that of Model. */
public final class ModelTest {
    private static final int RUNS = 150;
    private static final int CALLS = 150;
    private static final int[] ODD = {-1, Integer.MIN_VALUE, Integer.MAX_VALUE, 6, 7, 8, 9, 48, 96};

    private static long seed = 20240229;
    private static final Map<String, Integer> seen = new TreeMap<>();

    interface Call {
        Object make();
    }

    private static int below(int bound) {
        seed = seed * 6364136223846793005L + 1442695040888963407L;
        return (int) ((seed >>> 33) % bound);
    }

    /** A number below the bound, and now and then one that is far off. */
    private static int number(int bound) {
        return below(40) == 0 ? ODD[below(ODD.length)] : below(bound);
    }

    public static void main(String[] args) {
        for (int run = 0; run < RUNS; run++) {
            oneRun(run);
        }
        for (String what : new String[] {"reason 1", "reason 2", "reason 3", "reason 4", "reason 5", "reason 6",
            "reason 7", "reason 8", "reason 9", "reason 10", "reason 11", "hard that rips", "hard that rips two",
            "holes 12", "commands that are carried out", "commands that are refused later"}) {
            Script.check("the runs come to " + what + ", " + seen, seen.containsKey(what));
        }
        Script.finish();
    }

    private static void oneRun(int run) {
        WireBoard board = new WireBoard();
        Model model = new Model();
        int style = run % 5;
        if (style == 3) {
            wallIn(run, board, model);
        }
        if (style > 0) {
            netsWithPins(run, board, model, style);
        }
        for (int i = 0; i < CALLS; i++) {
            oneChange(run + "." + i, board, model, style);
            for (int question = 0; question < 2; question++) {
                oneQuestion(run + "." + i, board, model);
            }
        }
        everyAnswer(run + ".end", board, model);
        for (int reason : model.seenReasons.keySet()) {
            seen.merge("reason " + reason, 1, Integer::sum);
        }
    }

    /** Walls in every other column, on one layer and the other, so that ways along the rows need many holes. */
    private static void wallIn(int run, WireBoard board, Model model) {
        for (int row = 0; row < 6; row++) {
            for (int column = 1; column < 7; column += 2) {
                int layer = column / 2 % 2;
                int r = row;
                int c = column;
                if (run % 2 == 0 || below(10) > 0) {
                    same("wall", () -> board.wall(r, c, layer), model.wall(r, c, layer));
                }
            }
        }
    }

    private static void netsWithPins(int run, WireBoard board, Model model, int style) {
        for (int net = 0; net < 6; net++) {
            boolean wide = below(4) == 0 && style != 3;
            same(run + " net", () -> board.net(wide), model.net(wide));
        }
        if (style == 3) {
            pinsInRows(run, board, model);
        }
        for (int i = style == 3 ? run % 3 - 2 : 12 + 3 * style; i > 0; i--) {
            int net = below(6);
            int row = below(6);
            int column = below(8);
            same(run + " pin", () -> board.pin(net, row, column), model.pin(net, row, column));
        }
        for (int i = 0; i < 6; i++) {
            int net = i;
            same(run + " route", () -> board.route(net), model.route(net, false));
        }
    }

    /** Each net needs two holes with wallIn, and the last one needs three of them in every other run. */
    private static void pinsInRows(int run, WireBoard board, Model model) {
        for (int net = 0; net < 6; net++) {
            int n = net;
            boolean isLong = net == 5 && run % 2 == 0;
            int row = isLong ? 4 : net;
            int column = isLong ? 7 : 6;
            same(run + " pin", () -> board.pin(n, n, 0), model.pin(n, n, 0));
            same(run + " pin", () -> board.pin(n, row, column), model.pin(n, row, column));
        }
        same(run + " wall", () -> board.wall(5, 7, 1), model.wall(5, 7, 1));
    }

    private static String got(Call call) {
        try {
            return String.valueOf(call.make());
        } catch (RuntimeException e) {
            boolean isOwn = e.getMessage() != null && e.getStackTrace()[0].getClassName().equals("WireBoard");
            return "throws " + e.getClass().getSimpleName() + (isOwn && !e.getMessage().contains("/ by") ? "" : "!");
        }
    }

    private static void same(String what, Call call, String want) {
        String got = got(call);
        if (!got.equals(want)) {
            System.out.println(what + " answered " + got + ", due is " + want);
        }
        Script.check(what, got.equals(want));
    }

    private static void oneChange(String at, WireBoard board, Model model, int style) {
        int net = number(7);
        int row = number(6);
        int column = number(8);
        int layer = number(2);
        int kind = style == 0 || below(3) > 0 ? below(100) : 48 + below(31);
        if (kind < 6) {
            boolean wide = style > 0 && below(style + 1) > 1;
            same(at + " net", () -> board.net(wide), model.net(wide));
        } else if (kind < 34) {
            same(at + " pin " + net, () -> board.pin(net, row, column), model.pin(net, row, column));
        } else if (kind < 44) {
            same(at + " wall", () -> board.wall(row, column, layer), model.wall(row, column, layer));
        } else if (kind < 48) {
            same(at + " tearDown", () -> board.tearDown(row, column, layer), model.tearDown(row, column, layer));
        } else if (kind < 64) {
            same(at + " route " + net, () -> board.route(net), model.route(net, false));
        } else if (kind < 74) {
            String want = model.route(net, true);
            same(at + " hard " + net, () -> board.hard(net), want);
            if (!want.startsWith("throws") && !want.equals("0")) {
                seen.merge("hard that rips" + (Integer.bitCount(Integer.parseInt(want)) > 1 ? " two" : ""), 1,
                        Integer::sum);
            }
        } else if (kind < 79) {
            same(at + " rip " + net, () -> board.rip(net), model.rip(net));
        } else if (kind < 91) {
            commands(at, board, model);
        } else if (kind < 97) {
            same(at + " undo", board::undo, model.undo());
        } else if (kind < 99 || below(3) > 0) {
            same(at + " save", board::save, model.save());
        } else {
            same(at + " restore", board::restore, model.restore());
        }
        if (model.holes().equals("12")) {
            seen.merge("holes 12", 1, Integer::sum);
        }
        alwaysSo(at, board);
    }

    /** What the document tells of every state: two nets never touch where one is wide, and both ways answer the same. */
    private static void alwaysSo(String at, WireBoard board) {
        for (int cell = 0; cell < 96; cell++) {
            int row = cell / 16;
            int column = cell / 2 % 8;
            int layer = cell % 2;
            if (row < 5) {
                neverTouch(at, board, board.at(row, column, layer), board.at(row + 1, column, layer));
            }
            if (column < 7) {
                neverTouch(at, board, board.at(row, column, layer), board.at(row, column + 1, layer));
            }
        }
        Script.check(at + " holes in two ways", board.holes() == board.holesAgain() && board.holes() <= 12);
        for (int net = 0; net < board.account(0); net++) {
            Script.check(at + " cells in two ways", board.cellsOf(net) == board.cellsAgain(net));
        }
    }

    private static void neverTouch(String at, WireBoard board, int one, int other) {
        if (one >= 0 && other >= 0 && one != other) {
            Script.check(at + " two nets never touch where one of them is wide", board.netOf(one, 0) == 0
                    && board.netOf(other, 0) == 0);
        }
    }

    private static String word() {
        int kind = below(20);
        int net = below(5);
        if (kind < 4) {
            return "r" + net;
        }
        if (kind < 7) {
            return "h" + net;
        }
        if (kind < 9) {
            return "x" + net;
        }
        if (kind < 14) {
            return "p" + net + "@" + below(6) + below(8);
        }
        return kind < 19 ? "w" + below(6) + below(8) + below(2) : "r" + below(10);
    }

    private static void commands(String at, WireBoard board, Model model) {
        StringBuilder text = new StringBuilder(word());
        for (int more = below(4) * below(3) + below(16) / 15 * 20; more > 0; more--) {
            text.append(';').append(word());
        }
        if (below(5) == 0) {
            text.setCharAt(below(text.length()), "rhxpw0123456789;@ /:A".charAt(below(21)));
        }
        if (below(8) == 0) {
            text.setLength(below(text.length()));
        }
        for (int i = 0; i < text.length(); i++) {
            char c = text.charAt(i);
            same(at + " append", () -> board.append(c), model.append(c));
        }
        String want = model.commands();
        same(at + " commands " + text, board::commands, want);
        same(at + " faultPosition " + text, board::faultPosition, "" + model.fault);
        if (!want.startsWith("throws")) {
            seen.merge("commands that are carried out", 1, Integer::sum);
        } else if (want.contains("Unsupported") && model.reason[2] > 0) {
            seen.merge("commands that are refused later", 1, Integer::sum);
        }
        reasons(at, board, model);
    }

    private static void reasons(String at, WireBoard board, Model model) {
        for (int what = -1; what < 4; what++) {
            int w = what;
            same(at + " reason", () -> board.reason(w), model.reasonOf(w));
        }
    }

    private static void oneQuestion(String at, WireBoard board, Model model) {
        int net = number(6);
        int pin = number(4);
        int row = number(6);
        int column = number(8);
        int layer = number(2);
        int what = number(11);
        switch (below(12)) {
            case 0:
                same(at + " netOf", () -> board.netOf(net, what - 1), model.netOf(net, what - 1));
                break;
            case 1:
                same(at + " pinOf", () -> board.pinOf(net, pin), model.pinOf(net, pin));
                break;
            case 2:
                same(at + " at", () -> board.at(row, column, layer), model.at(row, column, layer));
                break;
            case 3:
                same(at + " isHole", () -> board.isHole(row, column), model.isHole(row, column));
                break;
            case 4:
                same(at + " price", () -> board.price(net, row, column, layer), model.price(net, row, column, layer));
                break;
            case 5:
                same(at + " wouldCost", () -> board.wouldCost(net), model.would(net, false));
                break;
            case 6:
                same(at + " wouldRip", () -> board.wouldRip(net), model.would(net, true));
                break;
            case 7:
                same(at + " reach", () -> board.reach(net, pin), model.reach(net, pin));
                break;
            case 8:
                same(at + " ranked", () -> board.ranked(net), model.ranked(net));
                break;
            case 9:
                same(at + " account", () -> board.account(what - 1), model.account(what - 1));
                break;
            case 10:
                same(at + " line", () -> board.line(row, layer), model.lineOf(row, layer));
                break;
            default:
                same(at + " character", () -> board.character(what), model.character(what));
                reasons(at, board, model);
                break;
        }
    }

    private static void everyAnswer(String at, WireBoard board, Model model) {
        for (int net = -1; net < 7; net++) {
            int n = net;
            for (int what = -1; what < 8; what++) {
                int w = what;
                same(at + " netOf", () -> board.netOf(n, w), model.netOf(n, w));
                same(at + " pinOf", () -> board.pinOf(n, w), model.pinOf(n, w));
                same(at + " reach", () -> board.reach(n, w), model.reach(n, w));
            }
            same(at + " wouldCost", () -> board.wouldCost(n), model.would(n, false));
            same(at + " wouldRip", () -> board.wouldRip(n), model.would(n, true));
            same(at + " cellsOf", () -> board.cellsOf(n), model.cellsOf(n));
            same(at + " cellsAgain", () -> board.cellsAgain(n), model.cellsOf(n));
            same(at + " touches", () -> board.touches(n), model.touches(n));
            same(at + " ranked", () -> board.ranked(n), model.ranked(n));
        }
        everyCell(at, board, model);
        for (int what = -1; what < 11; what++) {
            int w = what;
            same(at + " account", () -> board.account(w), model.account(w));
        }
        same(at + " holes", board::holes, model.holes());
        same(at + " holesAgain", board::holesAgain, model.holes());
        same(at + " meanCost", board::meanCost, model.meanCost());
        same(at + " filledShare", board::filledShare, model.filledShare());
    }

    private static void everyCell(String at, WireBoard board, Model model) {
        for (int row = -1; row < 7; row++) {
            int r = row;
            for (int layer = -1; layer < 3; layer++) {
                int l = layer;
                same(at + " line", () -> board.line(r, l), model.lineOf(r, l));
                for (int index = -1; index < 18; index++) {
                    int x = index;
                    same(at + " character", () -> board.character(x), model.character(x));
                }
                for (int column = -1; column < 9; column++) {
                    int c = column;
                    same(at + " at", () -> board.at(r, c, l), model.at(r, c, l));
                    same(at + " isHole", () -> board.isHole(r, c), model.isHole(r, c));
                    same(at + " price", () -> board.price((r + c + 2) % 6, r, c, l),
                            model.price((r + c + 2) % 6, r, c, l));
                }
            }
        }
    }
}
