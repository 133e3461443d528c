/** All that can be asked about a board without changing it, as a text: boards in the same state show the same one. */
final class View {
    interface Question {
        Object ask();
    }

    private final StringBuilder told = new StringBuilder();

    private View() {
    }

    /** What can be undone and saved. */
    static String ofBoard(WireBoard board) {
        View view = new View();
        for (int net = -1; net < 7; net++) {
            view.tellNet(board, net);
        }
        for (int row = 0; row < 6; row++) {
            for (int column = 0; column < 8; column++) {
                int r = row;
                int c = column;
                view.tell("isHole", () -> board.isHole(r, c));
                view.tell("at", () -> board.at(r, c, 0));
                view.tell("at", () -> board.at(r, c, 1));
            }
        }
        view.tell("holes", board::holes);
        view.tell("holesAgain", board::holesAgain);
        view.tell("meanCost", board::meanCost);
        view.tell("filledShare", board::filledShare);
        for (int what = 0; what < 8; what++) {
            int w = what;
            view.tell("account", () -> board.account(w));
        }
        return view.told.toString();
    }

    /** The text buffer's length, the fault position and the line. */
    static String ofTexts(WireBoard board) {
        View view = new View();
        view.tell("account(9)", () -> board.account(9));
        view.tell("faultPosition", board::faultPosition);
        view.told.append(ofLine(board));
        return view.told.toString();
    }

    static String ofLine(WireBoard board) {
        View view = new View();
        for (int index = 0; index < 17; index++) {
            int i = index;
            view.tell("character", () -> board.character(i));
        }
        return view.told.toString();
    }

    static String ofReason(WireBoard board) {
        View view = new View();
        for (int what = 0; what < 3; what++) {
            int w = what;
            view.tell("reason", () -> board.reason(w));
        }
        return view.told.toString();
    }

    private void tellNet(WireBoard board, int net) {
        for (int number = 0; number < 8; number++) {
            int n = number;
            tell("netOf", () -> board.netOf(net, n));
            tell("pinOf", () -> board.pinOf(net, n));
            tell("reach", () -> board.reach(net, n));
        }
        tell("wouldCost", () -> board.wouldCost(net));
        tell("wouldRip", () -> board.wouldRip(net));
        tell("cellsOf", () -> board.cellsOf(net));
        tell("cellsAgain", () -> board.cellsAgain(net));
        tell("touches", () -> board.touches(net));
        tell("ranked", () -> board.ranked(net));
        for (int cell = 0; cell < 96; cell++) {
            int c = cell;
            tell("price", () -> board.price(net, c / 16, c / 2 % 8, c % 2));
        }
    }

    private void tell(String name, Question question) {
        told.append(name).append(' ');
        try {
            told.append(question.ask());
        } catch (RuntimeException e) {
            told.append(e.getClass().getSimpleName());
        }
        told.append('\n');
    }
}
