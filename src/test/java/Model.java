import java.util.ArrayList;
import java.util.Arrays;
import java.util.HashMap;
import java.util.List;
import java.util.Map;
import java.util.TreeSet;
import java.util.regex.Matcher;
import java.util.regex.Pattern;

/**
 * The document told a second time, as plainly as it can be and without a thought for speed: every answer is worked
 * out from its words anew. An answer is a text, "throws X" for an exception.
 */
final class Model {
    private static final String UNSUPPORTED = "throws UnsupportedOperationException";
    private static final String INDEX = "throws IndexOutOfBoundsException";
    private static final String ARGUMENT = "throws IllegalArgumentException";
    private static final String ELEMENT = "throws NoSuchElementException";
    private static final String STATE = "throws IllegalStateException";

    /** A cell is the text "row column layer", a place "row column". */
    static final class Net {
        boolean wide;
        boolean routed;
        int cost;
        int ripped;
        List<String> pins = new ArrayList<>();
        TreeSet<String> wire = new TreeSet<>();
        TreeSet<String> holes = new TreeSet<>();

        Net copy() {
            Net n = new Net();
            n.wide = wide;
            n.routed = routed;
            n.cost = cost;
            n.ripped = ripped;
            n.pins.addAll(pins);
            n.wire.addAll(wire);
            n.holes.addAll(holes);
            return n;
        }

        boolean hasPinIn(String cell) {
            return pins.contains(cell.substring(0, 3));
        }

        boolean isIn(String cell) {
            return hasPinIn(cell) || wire.contains(cell);
        }
    }

    static final class World {
        List<Net> nets = new ArrayList<>();
        TreeSet<String> walls = new TreeSet<>();

        World copy() {
            World w = new World();
            for (Net n : nets) {
                w.nets.add(n.copy());
            }
            w.walls.addAll(walls);
            return w;
        }
    }

    static final class Plan {
        int cost;
        int lostPin = -1;
        TreeSet<String> part = new TreeSet<>();
        TreeSet<String> wayCells = new TreeSet<>();
        TreeSet<String> holes = new TreeSet<>();
    }

    World world = new World();
    final List<World> before = new ArrayList<>();
    World snapshot;
    String buffer = "";
    String line = "";
    int fault = -1;
    int[] reason;
    int command = 0;
    final Map<Integer, Integer> seenReasons = new HashMap<>();

    static List<String> cells() {
        List<String> all = new ArrayList<>();
        for (int layer = 0; layer < 2; layer++) {
            for (int row = 0; row < 6; row++) {
                for (int column = 0; column < 8; column++) {
                    all.add(row + " " + column + " " + layer);
                }
            }
        }
        return all;
    }

    static boolean isCell(int row, int column, int layer) {
        return 0 <= row && row <= 5 && 0 <= column && column <= 7 && (layer == 0 || layer == 1);
    }

    static int number(String cell, int index) {
        return Integer.parseInt(cell.split(" ")[index]);
    }

    /** Above, below, left, right, where there is such a cell; null where not. */
    static List<String> sides(String cell) {
        int r = number(cell, 0);
        int c = number(cell, 1);
        int l = number(cell, 2);
        List<String> sides = new ArrayList<>();
        for (int[] step : new int[][] {{-1, 0}, {1, 0}, {0, -1}, {0, 1}}) {
            boolean isThere = isCell(r + step[0], c + step[1], l);
            sides.add(isThere ? (r + step[0]) + " " + (c + step[1]) + " " + l : null);
        }
        return sides;
    }

    static String otherLayer(String cell) {
        return cell.substring(0, 4) + (cell.endsWith("0") ? "1" : "0");
    }

    boolean isNet(int net) {
        return net >= 0 && net < world.nets.size();
    }

    int inCell(String cell) {
        if (world.walls.contains(cell)) {
            return -2;
        }
        for (int i = 0; i < world.nets.size(); i++) {
            if (world.nets.get(i).isIn(cell)) {
                return i;
            }
        }
        return -1;
    }

    boolean oneIsWide(int a, int b) {
        return world.nets.get(a).wide || world.nets.get(b).wide;
    }

    int priceOf(int net, String cell) {
        if (world.walls.contains(cell)) {
            return -1;
        }
        int price = 0;
        for (int other = 0; other < world.nets.size(); other++) {
            if (other == net) {
                continue;
            }
            Net o = world.nets.get(other);
            if (o.hasPinIn(cell)) {
                return -1;
            }
            if (o.wire.contains(cell)) {
                price = 8;
            }
            for (String side : sides(cell)) {
                if (side != null && oneIsWide(net, other)) {
                    if (o.hasPinIn(side)) {
                        return -1;
                    }
                    if (o.wire.contains(side)) {
                        price = 8;
                    }
                }
            }
        }
        return price;
    }

    String refuse(int number, int detail) {
        reason = new int[] {number, detail, command};
        seenReasons.merge(number, 1, Integer::sum);
        return UNSUPPORTED;
    }

    /** Makes a change that refuses or answers; what there was before is kept when it answered. */
    private String change(World old, String answer) {
        if (!answer.startsWith("throws")) {
            before.add(old);
            if (before.size() > 8) {
                before.remove(0);
            }
        }
        return answer;
    }

    String net(boolean wide) {
        return change(world.copy(), doNet(wide));
    }

    private String doNet(boolean wide) {
        if (world.nets.size() == 6) {
            return refuse(2, 6);
        }
        Net n = new Net();
        n.wide = wide;
        world.nets.add(n);
        return "" + (world.nets.size() - 1);
    }

    String pin(int net, int row, int column) {
        return change(world.copy(), doPin(net, row, column));
    }

    private String doPin(int net, int row, int column) {
        if (!isNet(net)) {
            return refuse(3, net);
        }
        if (!isCell(row, column, 0)) {
            return refuse(1, 0);
        }
        Net n = world.nets.get(net);
        if (n.routed) {
            return refuse(4, net);
        }
        if (n.pins.size() == 4) {
            return refuse(2, 4);
        }
        String place = row + " " + column;
        for (String cell : List.of(place + " 0", place + " 1")) {
            int in = inCell(cell);
            if (in != -1) {
                return refuse(5, in == -2 ? -1 : in);
            }
        }
        for (String cell : List.of(place + " 0", place + " 1")) {
            for (int other = 0; other < world.nets.size(); other++) {
                for (String side : sides(cell)) {
                    if (other != net && oneIsWide(net, other) && side != null && inCell(side) == other) {
                        return refuse(6, other);
                    }
                }
            }
        }
        n.pins.add(place);
        return "" + (n.pins.size() - 1);
    }

    String wall(int row, int column, int layer) {
        return change(world.copy(), doWall(row, column, layer));
    }

    private String doWall(int row, int column, int layer) {
        if (!isCell(row, column, layer)) {
            return refuse(1, 0);
        }
        String cell = row + " " + column + " " + layer;
        int in = inCell(cell);
        if (in != -1) {
            return refuse(5, in == -2 ? -1 : in);
        }
        world.walls.add(cell);
        return "" + world.walls.size();
    }

    String tearDown(int row, int column, int layer) {
        return change(world.copy(), doTearDown(row, column, layer));
    }

    private String doTearDown(int row, int column, int layer) {
        if (!isCell(row, column, layer)) {
            return refuse(1, 0);
        }
        if (!world.walls.remove(row + " " + column + " " + layer)) {
            return refuse(7, 0);
        }
        return "" + world.walls.size();
    }

    private int step(int net, String from, String to, boolean barred) {
        int more = barred ? 8 : 0;
        if (number(from, 2) != number(to, 2)) {
            return more + (world.nets.get(net).hasPinIn(to) ? 0 : 3);
        }
        boolean sameRow = number(from, 0) == number(to, 0);
        return more + (number(to, 2) == 0 ? (sameRow ? 1 : 2) : (sameRow ? 2 : 1));
    }

    private static List<String> steps(String cell) {
        List<String> steps = sides(cell);
        steps.add(otherLayer(cell));
        return steps;
    }

    Plan plan(int net, boolean hard) {
        Plan plan = new Plan();
        Net n = world.nets.get(net);
        Map<String, Integer> prices = new HashMap<>();
        for (String cell : cells()) {
            prices.put(cell, priceOf(net, cell));
        }
        plan.part.add(n.pins.get(0) + " 0");
        plan.part.add(n.pins.get(0) + " 1");
        for (int pin = 1; pin < n.pins.size(); pin++) {
            Map<String, Integer> far = farFrom(net, plan.part, prices, hard);
            Integer low = far.get(n.pins.get(pin) + " 0");
            Integer high = far.get(n.pins.get(pin) + " 1");
            if (low == null && high == null) {
                plan.lostPin = pin;
                return plan;
            }
            boolean isLow = low != null && (high == null || low <= high);
            String cell = n.pins.get(pin) + (isLow ? " 0" : " 1");
            plan.cost += far.get(cell);
            List<String> way = new ArrayList<>();
            way.add(cell);
            while (!plan.part.contains(cell)) {
                String back = null;
                for (String next : steps(cell)) {
                    if (back == null && next != null && far.get(next) != null
                            && far.get(next) + step(net, next, cell, prices.get(cell) == 8) == far.get(cell)) {
                        back = next;
                    }
                }
                if (number(back, 2) != number(cell, 2) && !n.hasPinIn(cell)) {
                    plan.holes.add(cell.substring(0, 3));
                }
                cell = back;
                way.add(cell);
            }
            plan.wayCells.addAll(way);
            plan.part.addAll(way);
            plan.part.add(n.pins.get(pin) + " 0");
            plan.part.add(n.pins.get(pin) + " 1");
        }
        return plan;
    }

    private Map<String, Integer> farFrom(int net, TreeSet<String> part, Map<String, Integer> prices, boolean hard) {
        Map<String, Integer> far = new HashMap<>();
        for (String cell : part) {
            far.put(cell, 0);
        }
        boolean isNew = true;
        while (isNew) {
            isNew = false;
            for (String cell : cells()) {
                int price = prices.get(cell);
                if (price < 0 || price == 8 && !hard) {
                    continue;
                }
                for (String from : steps(cell)) {
                    if (from != null && far.get(from) != null) {
                        int cost = far.get(from) + step(net, from, cell, price == 8);
                        if (far.get(cell) == null || far.get(cell) > cost) {
                            far.put(cell, cost);
                            isNew = true;
                        }
                    }
                }
            }
        }
        return far;
    }

    private int toRip(int net, Plan plan) {
        int set = 0;
        for (int other = 0; other < world.nets.size(); other++) {
            for (String cell : plan.wayCells) {
                boolean inTheWay = world.nets.get(other).wire.contains(cell);
                for (String side : sides(cell)) {
                    inTheWay |= side != null && oneIsWide(net, other) && world.nets.get(other).wire.contains(side);
                }
                if (other != net && inTheWay) {
                    set |= 1 << other;
                }
            }
        }
        return set;
    }

    String route(int net, boolean hard) {
        return change(world.copy(), doRoute(net, hard));
    }

    private String doRoute(int net, boolean hard) {
        if (!isNet(net)) {
            return refuse(3, net);
        }
        Net n = world.nets.get(net);
        if (n.routed) {
            return refuse(4, net);
        }
        if (n.pins.size() < 2) {
            return refuse(8, n.pins.size());
        }
        Plan plan = plan(net, hard);
        if (plan.lostPin >= 0) {
            return refuse(9, plan.lostPin);
        }
        int rips = hard ? toRip(net, plan) : 0;
        int holes = plan.holes.size();
        for (int i = 0; i < world.nets.size(); i++) {
            holes += (rips >> i & 1) == 1 ? 0 : world.nets.get(i).holes.size();
        }
        if (holes > 12) {
            return refuse(10, holes);
        }
        for (int i = 0; i < world.nets.size(); i++) {
            if ((rips >> i & 1) == 1) {
                takeWire(i);
            }
        }
        n.routed = true;
        n.cost = plan.cost;
        n.holes.addAll(plan.holes);
        for (String cell : plan.part) {
            if (!n.hasPinIn(cell)) {
                n.wire.add(cell);
            }
        }
        return "" + (hard ? rips : plan.cost);
    }

    private int takeWire(int net) {
        Net n = world.nets.get(net);
        int cells = n.wire.size();
        n.wire.clear();
        n.holes.clear();
        n.routed = false;
        n.cost = 0;
        n.ripped++;
        return cells;
    }

    String rip(int net) {
        return change(world.copy(), doRip(net));
    }

    private String doRip(int net) {
        if (!isNet(net)) {
            return refuse(3, net);
        }
        if (!world.nets.get(net).routed) {
            return refuse(11, net);
        }
        return "" + takeWire(net);
    }

    String netOf(int net, int what) {
        if (!isNet(net)) {
            return INDEX;
        }
        if (what < 0 || what > 6) {
            return ARGUMENT;
        }
        Net n = world.nets.get(net);
        int[] numbers = {n.wide ? 1 : 0, n.pins.size(), n.routed ? 1 : 0, n.cost, n.wire.size(), n.holes.size(),
            n.ripped};
        return "" + numbers[what];
    }

    String pinOf(int net, int pin) {
        if (!isNet(net) || pin < 0 || pin >= world.nets.get(net).pins.size()) {
            return INDEX;
        }
        String place = world.nets.get(net).pins.get(pin);
        return "" + (8 * number(place, 0) + number(place, 1));
    }

    String at(int row, int column, int layer) {
        return isCell(row, column, layer) ? "" + inCell(row + " " + column + " " + layer) : INDEX;
    }

    String isHole(int row, int column) {
        return isCell(row, column, 0) ? "" + hasHole(row + " " + column) : INDEX;
    }

    private boolean hasHole(String place) {
        return world.nets.stream().anyMatch(n -> n.holes.contains(place));
    }

    String price(int net, int row, int column, int layer) {
        boolean isThere = isNet(net) && isCell(row, column, layer);
        return isThere ? "" + priceOf(net, row + " " + column + " " + layer) : INDEX;
    }

    String would(int net, boolean hard) {
        if (!isNet(net)) {
            return INDEX;
        }
        if (world.nets.get(net).routed || world.nets.get(net).pins.size() < 2) {
            return ELEMENT;
        }
        Plan plan = plan(net, hard);
        if (plan.lostPin >= 0) {
            return ELEMENT;
        }
        return "" + (hard ? toRip(net, plan) : plan.cost);
    }

    String reach(int net, int pin) {
        if (!isNet(net) || pin < 0 || pin >= world.nets.get(net).pins.size()) {
            return INDEX;
        }
        TreeSet<String> reached = new TreeSet<>();
        List<String> open = new ArrayList<>();
        open.add(world.nets.get(net).pins.get(pin) + " 0");
        open.add(world.nets.get(net).pins.get(pin) + " 1");
        while (!open.isEmpty()) {
            String cell = open.remove(0);
            if (reached.add(cell)) {
                for (String next : steps(cell)) {
                    if (next != null && priceOf(net, next) == 0) {
                        open.add(next);
                    }
                }
            }
        }
        return "" + reached.size();
    }

    String cellsOf(int net) {
        return isNet(net) ? "" + cells().stream().filter(c -> inCell(c) == net).count() : INDEX;
    }

    String holes() {
        return "" + world.nets.stream().mapToInt(n -> n.holes.size()).sum();
    }

    String touches(int net) {
        if (!isNet(net)) {
            return INDEX;
        }
        int count = 0;
        for (String cell : cells()) {
            for (String side : Arrays.asList(sides(cell).get(1), sides(cell).get(3))) {
                int a = inCell(cell);
                int b = side == null ? -1 : inCell(side);
                if (a >= 0 && b >= 0 && a != b && (a == net || b == net)) {
                    count++;
                }
            }
        }
        return "" + count;
    }

    String ranked(int place) {
        List<Integer> order = new ArrayList<>();
        for (int i = 0; i < world.nets.size(); i++) {
            order.add(i);
        }
        order.sort((a, b) -> {
            Net x = world.nets.get(a);
            Net y = world.nets.get(b);
            return x.cost != y.cost ? y.cost - x.cost : x.ripped != y.ripped ? y.ripped - x.ripped : a - b;
        });
        return place >= 0 && place < order.size() ? "" + order.get(place) : ELEMENT;
    }

    String append(char c) {
        if (buffer.length() == 60) {
            return STATE;
        }
        buffer += c;
        return "" + buffer.length();
    }

    String commands() {
        String text = buffer;
        buffer = "";
        fault = faultOf(text);
        if (fault >= 0) {
            return ARGUMENT;
        }
        World old = world.copy();
        String[] all = text.split(";");
        for (int i = 0; i < all.length; i++) {
            command = i;
            String answer = carryOut(all[i]);
            command = 0;
            if (answer.startsWith("throws")) {
                world = old;
                return UNSUPPORTED;
            }
        }
        return change(old, "" + all.length);
    }

    private String carryOut(String one) {
        Matcher digits = Pattern.compile("[0-9]").matcher(one);
        List<Integer> numbers = new ArrayList<>();
        while (digits.find()) {
            numbers.add(Integer.parseInt(digits.group()));
        }
        switch (one.charAt(0)) {
            case 'r':
                return doRoute(numbers.get(0), false);
            case 'h':
                return doRoute(numbers.get(0), true);
            case 'x':
                return doRip(numbers.get(0));
            case 'p':
                return doPin(numbers.get(0), numbers.get(1), numbers.get(2));
            default:
                return doWall(numbers.get(0), numbers.get(1), numbers.get(2));
        }
    }

    /** The longest beginning that such a text can have tells the fault. */
    private static int faultOf(String text) {
        Pattern whole = Pattern.compile("(?s)([rhx][0-9]|p[0-9]@[0-9][0-9]|w[0-9][0-9][0-9])"
                + "(;([rhx][0-9]|p[0-9]@[0-9][0-9]|w[0-9][0-9][0-9]))*");
        for (int length = 1; length <= text.length(); length++) {
            Matcher matcher = whole.matcher(text.substring(0, length));
            if (!matcher.matches() && !matcher.hitEnd()) {
                return length - 1;
            }
        }
        return whole.matcher(text).matches() ? -1 : text.length();
    }

    String reasonOf(int what) {
        if (what < 0 || what > 2) {
            return ARGUMENT;
        }
        return reason == null ? ELEMENT : "" + reason[what];
    }

    String lineOf(int row, int layer) {
        if (!isCell(row, 0, layer)) {
            return INDEX;
        }
        StringBuilder told = new StringBuilder();
        for (int column = 0; column < 8; column++) {
            String cell = row + " " + column + " " + layer;
            int in = inCell(cell);
            String sign = in == -1 ? "." : in == -2 ? "#" : "abcdef".substring(in, in + 1);
            boolean isPin = in >= 0 && world.nets.get(in).hasPinIn(cell);
            told.append(isPin ? sign.toUpperCase() : sign).append(hasHole(row + " " + column) ? "o" : "");
        }
        line = told.toString();
        return "" + line.length();
    }

    String character(int index) {
        return index >= 0 && index < line.length() ? "" + line.charAt(index) : INDEX;
    }

    private int sumCosts() {
        return world.nets.stream().mapToInt(n -> n.cost).sum();
    }

    private int countRouted() {
        return (int) world.nets.stream().filter(n -> n.routed).count();
    }

    String meanCost() {
        int routed = countRouted();
        return routed == 0 ? "throws ArithmeticException" : "" + (float) sumCosts() / (float) routed;
    }

    private int countEmpty() {
        return (int) cells().stream().filter(c -> inCell(c) == -1).count();
    }

    String filledShare() {
        return "" + (96 - countEmpty()) / 96.0;
    }

    String account(int what) {
        if (what < 0 || what > 9) {
            return ARGUMENT;
        }
        int[] all = {world.nets.size(), countRouted(), world.nets.stream().mapToInt(n -> n.pins.size()).sum(),
            world.walls.size(), countEmpty(), world.nets.stream().mapToInt(n -> n.wire.size()).sum(), sumCosts(),
            world.nets.stream().mapToInt(n -> n.ripped).sum(), before.size(), buffer.length()};
        return "" + all[what];
    }

    String undo() {
        if (before.isEmpty()) {
            return STATE;
        }
        world = before.remove(before.size() - 1);
        return "" + before.size();
    }

    String save() {
        snapshot = world.copy();
        return "" + world.nets.size();
    }

    String restore() {
        if (snapshot == null) {
            return STATE;
        }
        world = snapshot.copy();
        before.clear();
        return "" + world.nets.size();
    }
}
