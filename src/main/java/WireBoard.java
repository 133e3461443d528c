import java.util.NoSuchElementException;

/** A board of nets, walls and wires on two layers. The document DOC.md tells what it promises. */
public final class WireBoard {
    private static final int ROWS = 6;
    private static final int COLUMNS = 8;
    private static final int LAYERS = 2;
    private static final int PLACES = ROWS * COLUMNS;
    private static final int CELLS = PLACES * LAYERS;
    private static final int MOST_NETS = 6;
    private static final int MOST_PINS = 4;
    private static final int MOST_HOLES = 12;
    private static final int MOST_CHANGES = 8;
    private static final int MOST_SIGNS = 60;

    private static final int NOTHING = -1;
    private static final int WALL = -2;

    private static final int OPEN = 0;
    private static final int BARRED = 8;
    private static final int CLOSED = -1;

    // The directions stand in the order in which a way is gone back.
    private static final int ABOVE = 0;
    private static final int BELOW = 1;
    private static final int LEFT = 2;
    private static final int RIGHT = 3;
    private static final int OTHER_LAYER = 4;
    private static final int SIDES = 4;
    private static final int DIRECTIONS = 5;

    private static final int REFUSED = -1;
    private static final int OUT_OF_RANGE = 1;
    private static final int TOO_MANY = 2;
    private static final int NO_SUCH_NET = 3;
    private static final int IS_ROUTED = 4;
    private static final int NOT_FREE = 5;
    private static final int TOO_NEAR = 6;
    private static final int NO_WALL = 7;
    private static final int TOO_FEW_PINS = 8;
    private static final int NO_WAY = 9;
    private static final int TOO_MANY_HOLES = 10;
    private static final int NOT_ROUTED = 11;

    private final Board board = new Board();
    private final Router router = new Router(board);
    private final Refusal refusal = new Refusal();
    private final Builder builder = new Builder(board, router, refusal);
    private final History history = new History(board);
    private final CommandText text = new CommandText();
    private final RowText rowText = new RowText();
    private int fault = -1;

    public WireBoard() {
    }

    public int net(boolean isWide) throws UnsupportedOperationException {
        history.prepare();
        return confirmed(builder.addNet(isWide));
    }

    public int pin(int net, int row, int column) throws UnsupportedOperationException {
        history.prepare();
        return confirmed(builder.addPin(net, row, column));
    }

    public int wall(int row, int column, int layer) throws UnsupportedOperationException {
        history.prepare();
        return confirmed(builder.addWall(row, column, layer));
    }

    public int tearDown(int row, int column, int layer) throws UnsupportedOperationException {
        history.prepare();
        return confirmed(builder.removeWall(row, column, layer));
    }

    public int route(int net) throws UnsupportedOperationException {
        history.prepare();
        return confirmed(builder.layWays(net, false));
    }

    public int hard(int net) throws UnsupportedOperationException {
        history.prepare();
        return confirmed(builder.layWays(net, true));
    }

    public int rip(int net) throws UnsupportedOperationException {
        history.prepare();
        return confirmed(builder.takeWire(net));
    }

    public int netOf(int net, int what) throws IndexOutOfBoundsException, IllegalArgumentException {
        checkNet(net);
        switch (what) {
            case 0:
                return board.wide[net] ? 1 : 0;
            case 1:
                return board.pinCount[net];
            case 2:
                return board.routed[net] ? 1 : 0;
            case 3:
                return board.cost[net];
            case 4:
                return board.wireCells[net];
            case 5:
                return board.holeCount[net];
            case 6:
                return board.ripped[net];
            default:
                throw new IllegalArgumentException("what is not from 0 to 6");
        }
    }

    public int pinOf(int net, int pin) throws IndexOutOfBoundsException {
        checkPin(net, pin);
        return board.placeOfPin(net, pin);
    }

    public int at(int row, int column, int layer) throws IndexOutOfBoundsException {
        checkCell(row, column, layer);
        return board.held[cellAt(row, column, layer)];
    }

    public boolean isHole(int row, int column) throws IndexOutOfBoundsException {
        checkCell(row, column, 0);
        return board.holeAt[cellAt(row, column, 0)];
    }

    public int price(int net, int row, int column, int layer) throws IndexOutOfBoundsException {
        checkNet(net);
        checkCell(row, column, layer);
        return board.priceFor(net, cellAt(row, column, layer));
    }

    public int wouldCost(int net) throws IndexOutOfBoundsException, NoSuchElementException {
        checkNet(net);
        if (!router.findWays(net, false)) {
            throw new NoSuchElementException("the net cannot be routed");
        }
        return router.cost;
    }

    public int wouldRip(int net) throws IndexOutOfBoundsException, NoSuchElementException {
        checkNet(net);
        if (!router.findWays(net, true)) {
            throw new NoSuchElementException("the net cannot be routed the hard way");
        }
        return router.netsInTheWay();
    }

    public int reach(int net, int pin) throws IndexOutOfBoundsException {
        checkPin(net, pin);
        router.readPrices(net);
        return router.countReached(board.placeOfPin(net, pin));
    }

    public int cellsOf(int net) throws IndexOutOfBoundsException {
        checkNet(net);
        return board.countHeld(net);
    }

    public int cellsAgain(int net) throws IndexOutOfBoundsException {
        checkNet(net);
        return 2 * board.pinCount[net] + board.wireCells[net];
    }

    public int holes() {
        return board.countHoles();
    }

    public int holesAgain() {
        return board.sumOver(board.holeCount);
    }

    public int touches(int net) throws IndexOutOfBoundsException {
        checkNet(net);
        return board.countTouches(net);
    }

    public int ranked(int place) throws NoSuchElementException {
        if (place < 0 || place >= board.netCount) {
            throw new NoSuchElementException("there is no such place in the order");
        }
        int found = 0;
        for (int net = 0; net < board.netCount; net++) {
            if (board.countBefore(net) == place) {
                found = net;
            }
        }
        return found;
    }

    public int append(char character) throws IllegalStateException {
        if (text.length == MOST_SIGNS) {
            throw new IllegalStateException("the text buffer is full");
        }
        text.add(character);
        return text.length;
    }

    public int commands() throws IllegalArgumentException, UnsupportedOperationException {
        fault = text.findFault();
        if (fault >= 0) {
            text.length = 0;
            throw new IllegalArgumentException("the text has a fault");
        }
        history.prepare();
        int at = 0;
        int done = 0;
        boolean isRefused = false;
        while (done < MOST_SIGNS && at < text.length && !isRefused) {
            refusal.commandNow = done;
            isRefused = carryOut(at) == REFUSED;
            at += text.commandLength(at) + 1;
            done++;
        }
        refusal.commandNow = 0;
        text.length = 0;
        if (isRefused) {
            history.takeBack();
            throw new UnsupportedOperationException("a command is refused");
        }
        history.confirm();
        return done;
    }

    public int faultPosition() {
        return fault;
    }

    public int reason(int what) throws IllegalArgumentException, NoSuchElementException {
        if (what < 0 || what > 2) {
            throw new IllegalArgumentException("what is not from 0 to 2");
        }
        if (refusal.reason == 0) {
            throw new NoSuchElementException("nothing was refused");
        }
        if (what == 0) {
            return refusal.reason;
        }
        return what == 1 ? refusal.detail : refusal.command;
    }

    public int line(int row, int layer) throws IndexOutOfBoundsException {
        checkCell(row, 0, layer);
        rowText.write(board, cellAt(row, 0, layer));
        return rowText.length;
    }

    public char character(int index) throws IndexOutOfBoundsException {
        if (index < 0 || index >= rowText.length) {
            throw new IndexOutOfBoundsException("there is no such character in the line");
        }
        return rowText.signs[index];
    }

    public float meanCost() throws ArithmeticException {
        int count = board.countRouted();
        if (count == 0) {
            throw new ArithmeticException("no net is routed");
        }
        return (float) board.sumOver(board.cost) / (float) count;
    }

    public double filledShare() {
        return (double) (CELLS - board.countHeld(NOTHING)) / (double) CELLS;
    }

    public int account(int what) throws IllegalArgumentException {
        switch (what) {
            case 0:
                return board.netCount;
            case 1:
                return board.countRouted();
            case 2:
                return board.sumOver(board.pinCount);
            case 3:
                return board.wallCount;
            case 4:
                return board.countHeld(NOTHING);
            case 5:
                return board.sumOver(board.wireCells);
            case 6:
                return board.sumOver(board.cost);
            case 7:
                return board.sumOver(board.ripped);
            case 8:
                return history.count;
            case 9:
                return text.length;
            default:
                throw new IllegalArgumentException("what is not from 0 to 9");
        }
    }

    public int undo() throws IllegalStateException {
        if (history.count == 0) {
            throw new IllegalStateException("there is nothing to undo");
        }
        history.goBack();
        return history.count;
    }

    public int save() {
        history.keepSnapshot();
        return board.netCount;
    }

    public int restore() throws IllegalStateException {
        if (!history.hasSnapshot) {
            throw new IllegalStateException("there is no snapshot");
        }
        history.takeSnapshot();
        return board.netCount;
    }

    private int confirmed(int answer) {
        if (answer == REFUSED) {
            throw new UnsupportedOperationException("it is refused; the reason is kept");
        }
        history.confirm();
        return answer;
    }

    private int carryOut(int at) {
        char letter = text.signAt(at);
        int first = text.digitAt(at + 1);
        if (letter == 'r' || letter == 'h') {
            return builder.layWays(first, letter == 'h');
        }
        if (letter == 'x') {
            return builder.takeWire(first);
        }
        if (letter == 'p') {
            return builder.addPin(first, text.digitAt(at + 3), text.digitAt(at + 4));
        }
        return builder.addWall(first, text.digitAt(at + 2), text.digitAt(at + 3));
    }

    private void checkNet(int net) {
        if (!board.hasNet(net)) {
            throw new IndexOutOfBoundsException("there is no such net");
        }
    }

    private void checkPin(int net, int pin) {
        if (!board.hasNet(net) || pin < 0 || pin >= board.pinCount[net]) {
            throw new IndexOutOfBoundsException("there is no such net or pin");
        }
    }

    private void checkCell(int row, int column, int layer) {
        if (!isCell(row, column, layer)) {
            throw new IndexOutOfBoundsException("there is no such cell");
        }
    }

    private static boolean isCell(int row, int column, int layer) {
        return row >= 0 && row < ROWS && column >= 0 && column < COLUMNS && layer >= 0 && layer < LAYERS;
    }

    /** The cells are numbered place by place, so that a cell of the layer 0 has the number of its place. */
    private static int cellAt(int row, int column, int layer) {
        return layer * PLACES + row * COLUMNS + column;
    }

    /** The cell next to a cell in a direction, or -1 where the board ends. */
    private static int beside(int cell, int direction) {
        int place = cell % PLACES;
        switch (direction) {
            case ABOVE:
                return place < COLUMNS ? -1 : cell - COLUMNS;
            case BELOW:
                return place >= PLACES - COLUMNS ? -1 : cell + COLUMNS;
            case LEFT:
                return place % COLUMNS == 0 ? -1 : cell - 1;
            case RIGHT:
                return place % COLUMNS == COLUMNS - 1 ? -1 : cell + 1;
            default:
                return cell < PLACES ? cell + PLACES : cell - PLACES;
        }
    }

    /** All that can be undone: the nets, and what is in the cells. */
    private static final class Board {
        int netCount = 0;
        int wallCount = 0;
        final boolean[] wide = new boolean[MOST_NETS];
        final boolean[] routed = new boolean[MOST_NETS];
        final int[] pinCount = new int[MOST_NETS];
        final int[] cost = new int[MOST_NETS];
        final int[] wireCells = new int[MOST_NETS];
        final int[] holeCount = new int[MOST_NETS];
        final int[] ripped = new int[MOST_NETS];
        final int[] pinPlaces = new int[MOST_NETS * MOST_PINS];
        final int[] held = new int[CELLS];
        final boolean[] pinAt = new boolean[PLACES];
        final boolean[] holeAt = new boolean[PLACES];

        Board() {
            for (int cell = 0; cell < CELLS; cell++) {
                held[cell] = NOTHING;
            }
        }

        void copyFrom(Board other) {
            netCount = other.netCount;
            wallCount = other.wallCount;
            for (int net = 0; net < MOST_NETS; net++) {
                wide[net] = other.wide[net];
                routed[net] = other.routed[net];
            }
            for (int place = 0; place < PLACES; place++) {
                pinAt[place] = other.pinAt[place];
                holeAt[place] = other.holeAt[place];
            }
            System.arraycopy(other.pinCount, 0, pinCount, 0, MOST_NETS);
            System.arraycopy(other.cost, 0, cost, 0, MOST_NETS);
            System.arraycopy(other.wireCells, 0, wireCells, 0, MOST_NETS);
            System.arraycopy(other.holeCount, 0, holeCount, 0, MOST_NETS);
            System.arraycopy(other.ripped, 0, ripped, 0, MOST_NETS);
            System.arraycopy(other.pinPlaces, 0, pinPlaces, 0, MOST_NETS * MOST_PINS);
            System.arraycopy(other.held, 0, held, 0, CELLS);
        }

        boolean hasNet(int net) {
            return net >= 0 && net < netCount;
        }

        int placeOfPin(int net, int pin) {
            return pinPlaces[net * MOST_PINS + pin];
        }

        /** The other nets with a cell beside this one, one of both nets being wide, as a set. */
        int netsNear(int net, int cell, boolean byPins, boolean byWires) {
            int near = 0;
            for (int side = 0; side < SIDES; side++) {
                int next = beside(cell, side);
                int other = next < 0 ? NOTHING : held[next];
                if (other >= 0 && other != net && (wide[net] || wide[other])
                        && (pinAt[next % PLACES] ? byPins : byWires)) {
                    near |= 1 << other;
                }
            }
            return near;
        }

        /** The other nets whose wires are in a cell or too near to it, as a set. */
        int wiresInTheWay(int net, int cell) {
            int inTheWay = netsNear(net, cell, false, true);
            int other = held[cell];
            if (other >= 0 && other != net && !pinAt[cell % PLACES]) {
                inTheWay |= 1 << other;
            }
            return inTheWay;
        }

        int priceFor(int net, int cell) {
            int other = held[cell];
            boolean isForeign = other >= 0 && other != net;
            boolean isForeignPin = isForeign && pinAt[cell % PLACES];
            if (other == WALL || isForeignPin || netsNear(net, cell, true, false) != 0) {
                return CLOSED;
            }
            return isForeign || netsNear(net, cell, false, true) != 0 ? BARRED : OPEN;
        }

        int countHeld(int what) {
            int count = 0;
            for (int cell = 0; cell < CELLS; cell++) {
                if (held[cell] == what) {
                    count++;
                }
            }
            return count;
        }

        int countHoles() {
            int count = 0;
            for (int place = 0; place < PLACES; place++) {
                if (holeAt[place]) {
                    count++;
                }
            }
            return count;
        }

        int countRouted() {
            int count = 0;
            for (int net = 0; net < netCount; net++) {
                if (routed[net]) {
                    count++;
                }
            }
            return count;
        }

        int countTouches(int net) {
            int count = 0;
            for (int cell = 0; cell < CELLS; cell++) {
                for (int side = 0; side < SIDES && held[cell] == net; side++) {
                    int next = beside(cell, side);
                    if (next >= 0 && held[next] >= 0 && held[next] != net) {
                        count++;
                    }
                }
            }
            return count;
        }

        int sumOver(int[] ofNets) {
            int sum = 0;
            for (int net = 0; net < netCount; net++) {
                sum += ofNets[net];
            }
            return sum;
        }

        /** How many nets stand before this one in the order of ranked. */
        int countBefore(int net) {
            int count = 0;
            for (int other = 0; other < netCount; other++) {
                if (cost[other] != cost[net]) {
                    count += cost[other] > cost[net] ? 1 : 0;
                } else if (ripped[other] != ripped[net]) {
                    count += ripped[other] > ripped[net] ? 1 : 0;
                } else {
                    count += other < net ? 1 : 0;
                }
            }
            return count;
        }

        int putNet(boolean isWide) {
            wide[netCount] = isWide;
            netCount++;
            return netCount - 1;
        }

        int putPin(int net, int place) {
            int pin = pinCount[net];
            pinPlaces[net * MOST_PINS + pin] = place;
            pinCount[net] = pin + 1;
            pinAt[place] = true;
            held[place] = net;
            held[place + PLACES] = net;
            return pin;
        }

        void putWire(int net, boolean[] part, boolean[] newHoles) {
            routed[net] = true;
            for (int cell = 0; cell < CELLS; cell++) {
                if (part[cell] && !pinAt[cell % PLACES]) {
                    held[cell] = net;
                    wireCells[net]++;
                }
            }
            for (int place = 0; place < PLACES; place++) {
                if (newHoles[place]) {
                    holeAt[place] = true;
                    holeCount[net]++;
                }
            }
        }

        void removeWire(int net) {
            for (int cell = 0; cell < CELLS; cell++) {
                int place = cell % PLACES;
                if (held[cell] == net && !pinAt[place]) {
                    held[cell] = NOTHING;
                    holeAt[place] = false;
                }
            }
            routed[net] = false;
            cost[net] = 0;
            wireCells[net] = 0;
            holeCount[net] = 0;
            ripped[net]++;
        }
    }

    /** Finds the ways of one net after the other; its rows are used again for each. */
    private static final class Router {
        private static final int FAR = 1000000;
        private static final int HOLE_COST = 3;
        private static final int MOST_TURNS = 1000000;

        private final Board board;
        private final int[] prices = new int[CELLS];
        private final int[] layerCosts = new int[PLACES];
        private final int[] costs = new int[CELLS];
        private final int[] queue = new int[CELLS];
        private final boolean[] isQueued = new boolean[CELLS];
        private int queueStart = 0;
        private int queueLength = 0;
        private int net = 0;
        private boolean isHard = false;

        final boolean[] part = new boolean[CELLS];
        final boolean[] newHoles = new boolean[PLACES];
        int newHoleCount = 0;
        int cost = 0;
        int lostPin = 0;

        Router(Board board) {
            this.board = board;
        }

        void readPrices(int ofNet) {
            net = ofNet;
            for (int cell = 0; cell < CELLS; cell++) {
                prices[cell] = board.priceFor(ofNet, cell);
            }
            for (int place = 0; place < PLACES; place++) {
                boolean isOwnPin = board.held[place] == ofNet && board.pinAt[place];
                layerCosts[place] = isOwnPin ? 0 : HOLE_COST;
            }
        }

        /** Whether the net can be routed so, whatever holes there are; then its ways are found. */
        boolean findWays(int ofNet, boolean hardWay) {
            if (board.routed[ofNet] || board.pinCount[ofNet] < 2) {
                return false;
            }
            readPrices(ofNet);
            return joinPins(hardWay);
        }

        /** Joins the pins of the net whose prices were read; if one has no way, lostPin tells which. */
        boolean joinPins(boolean hardWay) {
            isHard = hardWay;
            clearWays();
            takePin(board.placeOfPin(net, 0));
            for (int pin = 1; pin < board.pinCount[net]; pin++) {
                int place = board.placeOfPin(net, pin);
                spreadCosts();
                int target = costs[place] <= costs[place + PLACES] ? place : place + PLACES;
                if (costs[target] == FAR) {
                    lostPin = pin;
                    return false;
                }
                cost += costs[target];
                goBack(target);
                takePin(place);
            }
            return true;
        }

        /** The nets whose wires are in the way of the ways that were found, as a set. */
        int netsInTheWay() {
            int inTheWay = 0;
            for (int cell = 0; cell < CELLS; cell++) {
                if (part[cell]) {
                    inTheWay |= board.wiresInTheWay(net, cell);
                }
            }
            return inTheWay;
        }

        int countReached(int place) {
            isHard = false;
            clearWays();
            takePin(place);
            spreadCosts();
            int count = 0;
            for (int cell = 0; cell < CELLS; cell++) {
                if (costs[cell] < FAR) {
                    count++;
                }
            }
            return count;
        }

        private void clearWays() {
            for (int cell = 0; cell < CELLS; cell++) {
                part[cell] = false;
            }
            for (int place = 0; place < PLACES; place++) {
                newHoles[place] = false;
            }
            newHoleCount = 0;
            cost = 0;
        }

        private void takePin(int place) {
            part[place] = true;
            part[place + PLACES] = true;
        }

        /** Finds for each cell what the cheapest way from the part to it costs. */
        private void spreadCosts() {
            queueStart = 0;
            queueLength = 0;
            for (int cell = 0; cell < CELLS; cell++) {
                costs[cell] = part[cell] ? 0 : FAR;
                isQueued[cell] = false;
                if (part[cell]) {
                    enqueue(cell);
                }
            }
            for (int turn = 0; queueLength > 0 && turn < MOST_TURNS; turn++) {
                int cell = queue[queueStart];
                queueStart = (queueStart + 1) % CELLS;
                queueLength--;
                isQueued[cell] = false;
                spreadFrom(cell);
            }
        }

        private void spreadFrom(int cell) {
            for (int direction = 0; direction < DIRECTIONS; direction++) {
                int next = beside(cell, direction);
                if (next >= 0 && (prices[next] == OPEN || isHard && prices[next] == BARRED)) {
                    int costThere = costs[cell] + stepCost(next, direction);
                    if (costThere < costs[next]) {
                        costs[next] = costThere;
                        enqueue(next);
                    }
                }
            }
        }

        /** A cell stands in the queue once at most, so that the queue never holds more than all cells. */
        private void enqueue(int cell) {
            if (!isQueued[cell]) {
                isQueued[cell] = true;
                queue[(queueStart + queueLength) % CELLS] = cell;
                queueLength++;
            }
        }

        /** What a step in a direction, or against it, costs that comes into a cell. */
        private int stepCost(int cell, int direction) {
            int more = prices[cell] == BARRED ? BARRED : 0;
            if (direction == OTHER_LAYER) {
                return more + layerCosts[cell % PLACES];
            }
            boolean isAlongRow = direction == LEFT || direction == RIGHT;
            boolean isFirstLayer = cell < PLACES;
            return more + (isAlongRow == isFirstLayer ? 1 : 2);
        }

        /** Goes back from a cell to the part, and takes the cells of the way into it. */
        private void goBack(int target) {
            int cell = target;
            for (int step = 0; step < CELLS && !part[cell]; step++) {
                int direction = firstBack(cell);
                if (direction == OTHER_LAYER && layerCosts[cell % PLACES] > 0) {
                    newHoles[cell % PLACES] = true;
                    newHoleCount++;
                }
                part[cell] = true;
                cell = beside(cell, direction);
            }
        }

        /** The first direction from which as cheap a way comes; it is the other layer where no side fits. */
        private int firstBack(int cell) {
            for (int side = 0; side < SIDES; side++) {
                int next = beside(cell, side);
                if (next >= 0 && costs[next] < FAR && costs[next] + stepCost(cell, side) == costs[cell]) {
                    return side;
                }
            }
            return OTHER_LAYER;
        }
    }

    /** Carries out the changes, or keeps the reason for which one is refused and answers REFUSED. */
    private static final class Builder {
        private final Board board;
        private final Router router;
        private final Refusal refusal;

        Builder(Board board, Router router, Refusal refusal) {
            this.board = board;
            this.router = router;
            this.refusal = refusal;
        }

        int addNet(boolean isWide) {
            if (board.netCount >= MOST_NETS) {
                return refusal.keep(TOO_MANY, MOST_NETS);
            }
            return board.putNet(isWide);
        }

        int addPin(int net, int row, int column) {
            if (!board.hasNet(net)) {
                return refusal.keep(NO_SUCH_NET, net);
            }
            if (!isCell(row, column, 0)) {
                return refusal.keep(OUT_OF_RANGE, 0);
            }
            if (board.routed[net]) {
                return refusal.keep(IS_ROUTED, net);
            }
            if (board.pinCount[net] >= MOST_PINS) {
                return refusal.keep(TOO_MANY, MOST_PINS);
            }
            int place = cellAt(row, column, 0);
            for (int cell = place; cell < CELLS; cell += PLACES) {
                if (board.held[cell] != NOTHING) {
                    return refuseNotFree(cell);
                }
            }
            for (int cell = place; cell < CELLS; cell += PLACES) {
                int near = board.netsNear(net, cell, true, true);
                if (near != 0) {
                    return refusal.keep(TOO_NEAR, lowestOf(near));
                }
            }
            return board.putPin(net, place);
        }

        int addWall(int row, int column, int layer) {
            if (!isCell(row, column, layer)) {
                return refusal.keep(OUT_OF_RANGE, 0);
            }
            int cell = cellAt(row, column, layer);
            if (board.held[cell] != NOTHING) {
                return refuseNotFree(cell);
            }
            board.held[cell] = WALL;
            board.wallCount++;
            return board.wallCount;
        }

        int removeWall(int row, int column, int layer) {
            if (!isCell(row, column, layer)) {
                return refusal.keep(OUT_OF_RANGE, 0);
            }
            int cell = cellAt(row, column, layer);
            if (board.held[cell] != WALL) {
                return refusal.keep(NO_WALL, 0);
            }
            board.held[cell] = NOTHING;
            board.wallCount--;
            return board.wallCount;
        }

        /** Answers the cost of the net, or, for the hard way, the set of the nets that were ripped. */
        int layWays(int net, boolean hardWay) {
            if (!board.hasNet(net)) {
                return refusal.keep(NO_SUCH_NET, net);
            }
            if (board.routed[net]) {
                return refusal.keep(IS_ROUTED, net);
            }
            if (board.pinCount[net] < 2) {
                return refusal.keep(TOO_FEW_PINS, board.pinCount[net]);
            }
            router.readPrices(net);
            if (!router.joinPins(hardWay)) {
                return refusal.keep(NO_WAY, router.lostPin);
            }
            int toRip = hardWay ? router.netsInTheWay() : 0;
            int holesThen = board.countHoles() + router.newHoleCount - countHolesOf(toRip);
            if (holesThen > MOST_HOLES) {
                return refusal.keep(TOO_MANY_HOLES, holesThen);
            }
            ripAll(toRip);
            board.putWire(net, router.part, router.newHoles);
            board.cost[net] = router.cost;
            return hardWay ? toRip : router.cost;
        }

        int takeWire(int net) {
            if (!board.hasNet(net)) {
                return refusal.keep(NO_SUCH_NET, net);
            }
            if (!board.routed[net]) {
                return refusal.keep(NOT_ROUTED, net);
            }
            int cells = board.wireCells[net];
            board.removeWire(net);
            return cells;
        }

        private int refuseNotFree(int cell) {
            int inIt = board.held[cell];
            return refusal.keep(NOT_FREE, inIt == WALL ? -1 : inIt);
        }

        private int countHolesOf(int nets) {
            int count = 0;
            for (int net = 0; net < MOST_NETS; net++) {
                if ((nets & 1 << net) != 0) {
                    count += board.holeCount[net];
                }
            }
            return count;
        }

        private void ripAll(int nets) {
            for (int net = 0; net < MOST_NETS; net++) {
                if ((nets & 1 << net) != 0) {
                    board.removeWire(net);
                }
            }
        }

        private static int lowestOf(int nets) {
            int net = 0;
            while (net < MOST_NETS && (nets & 1 << net) == 0) {
                net++;
            }
            return net;
        }
    }

    /** The reason of the latest refusal; 0 is none. */
    private static final class Refusal {
        int reason = 0;
        int detail = 0;
        int command = 0;
        int commandNow = 0;

        int keep(int newReason, int newDetail) {
            reason = newReason;
            detail = newDetail;
            command = commandNow;
            return REFUSED;
        }
    }

    /** What the board was before each of the latest changes, and a snapshot of it. */
    private static final class History {
        // One slot more than there are changes: a change that is then refused must not cost the oldest one.
        private static final int SLOTS = MOST_CHANGES + 1;

        private final Board board;
        private final Board[] slots = new Board[SLOTS];
        private final Board snapshot = new Board();
        private int start = 0;

        int count = 0;
        boolean hasSnapshot = false;

        History(Board board) {
            this.board = board;
            for (int slot = 0; slot < SLOTS; slot++) {
                slots[slot] = new Board();
            }
        }

        /** Notes the board before a change, which counts once it is confirmed. */
        void prepare() {
            slots[(start + count) % SLOTS].copyFrom(board);
        }

        void confirm() {
            if (count < MOST_CHANGES) {
                count++;
            } else {
                start = (start + 1) % SLOTS;
            }
        }

        /** Puts the board back to what was prepared last. */
        void takeBack() {
            board.copyFrom(slots[(start + count) % SLOTS]);
        }

        void goBack() {
            if (count > 0) {
                count--;
                takeBack();
            }
        }

        void keepSnapshot() {
            snapshot.copyFrom(board);
            hasSnapshot = true;
        }

        void takeSnapshot() {
            board.copyFrom(snapshot);
            count = 0;
        }
    }

    /** The text buffer. */
    private static final class CommandText {
        // What stands behind the letter of a command; 9 is for any digit.
        private static final String FORM_OF_NET = "9";
        private static final String FORM_OF_PIN = "9@99";
        private static final String FORM_OF_WALL = "999";

        private final char[] signs = new char[MOST_SIGNS];
        int length = 0;

        void add(char sign) {
            if (length < MOST_SIGNS) {
                signs[length] = sign;
                length++;
            }
        }

        char signAt(int index) {
            return index >= 0 && index < length ? signs[index] : (char) 0;
        }

        int digitAt(int index) {
            return signAt(index) - '0';
        }

        int commandLength(int at) {
            return 1 + formOf(signAt(at)).length();
        }

        /** The index of the first character that cannot stand there, or -1 if there is none. */
        int findFault() {
            int at = 0;
            while (at < length) {
                String form = formOf(signs[at]);
                if (form.isEmpty()) {
                    return at;
                }
                int end = at + 1 + form.length();
                int found = findMismatch(at + 1, form);
                if (found < end) {
                    return found;
                }
                if (end == length) {
                    return -1;
                }
                if (signs[end] != ';') {
                    return end;
                }
                at = end + 1;
            }
            return length;
        }

        /** The first index at which the text does not go on in this form; its end if all of it fits. */
        private int findMismatch(int from, String form) {
            for (int index = 0; index < form.length(); index++) {
                int at = from + index;
                if (at >= length || !fits(signs[at], form.charAt(index))) {
                    return at;
                }
            }
            return from + form.length();
        }

        private static boolean fits(char sign, char wanted) {
            return wanted == '9' ? sign >= '0' && sign <= '9' : sign == wanted;
        }

        private static String formOf(char letter) {
            if (letter == 'r' || letter == 'h' || letter == 'x') {
                return FORM_OF_NET;
            }
            if (letter == 'p') {
                return FORM_OF_PIN;
            }
            return letter == 'w' ? FORM_OF_WALL : "";
        }
    }

    /** The line. */
    private static final class RowText {
        final char[] signs = new char[2 * COLUMNS];
        int length = 0;

        void write(Board board, int firstCell) {
            length = 0;
            for (int cell = firstCell; cell < firstCell + COLUMNS; cell++) {
                add(signOf(board, cell));
                if (board.holeAt[cell % PLACES]) {
                    add('o');
                }
            }
        }

        private void add(char sign) {
            if (length < signs.length) {
                signs[length] = sign;
                length++;
            }
        }

        private static char signOf(Board board, int cell) {
            int inIt = board.held[cell];
            if (inIt == NOTHING) {
                return '.';
            }
            if (inIt == WALL) {
                return '#';
            }
            return (char) ((board.pinAt[cell % PLACES] ? 'A' : 'a') + inIt);
        }
    }
}
