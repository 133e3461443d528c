import java.lang.management.ManagementFactory;
import java.lang.reflect.Array;
import java.lang.reflect.Field;
import java.lang.reflect.Modifier;
import java.util.ArrayDeque;
import java.util.Collections;
import java.util.Deque;
import java.util.IdentityHashMap;
import java.util.Set;

/** What an object and its 512 calls take of the room: few objects, rows that are used again, and nothing that grows. */
public final class RoomTest {
    private static final int CALLS = 512;
    private static final int MOST_OBJECTS = 200;
    private static final int MOST_ELEMENTS = 6000;
    /** For all calls together: one small row made in each of them would take more. */
    private static final long MOST_BYTES = 8192;

    interface Call {
        void make(WireBoard board);
    }

    public static void main(String[] args) throws IllegalAccessException {
        takesLittle("wouldCost", board -> board.wouldCost(2));
        takesLittle("wouldRip", board -> board.wouldRip(2));
        takesLittle("reach", board -> board.reach(2, 0));
        takesLittle("price", board -> board.price(2, 2, 2, 0));
        takesLittle("line", board -> board.line(0, 0));
        takesLittle("ranked", board -> board.ranked(1));
        takesLittle("save", WireBoard::save);
        takesLittle("restore", WireBoard::restore);
        takesLittle("hard and undo", board -> {
            board.hard(2);
            board.undo();
        });
        takesLittle("hard and rip", board -> {
            board.hard(2);
            board.rip(2);
        });
        takesLittle("commands", board -> {
            board.append('x');
            board.append('0');
            board.append(';');
            board.append('r');
            board.append('0');
            board.commands();
        });
        Script.finish();
    }

    private static WireBoard board() {
        WireBoard board = new WireBoard();
        Script.runOn(board, "setup", "net(false); net(true); net(false); " + Bounds.pins(0, 20, 27) + Bounds.pins(1, 3, 53)
                + Bounds.pins(2, 5, 55) + "route(0) = 7; save() = 3");
        return board;
    }

    private static void takesLittle(String name, Call call) throws IllegalAccessException {
        WireBoard board = board();
        count(name + ", before", board);
        call.make(board);
        long before = bytes();
        for (int i = 0; i < CALLS; i++) {
            call.make(board);
        }
        long taken = bytes() - before;
        Script.check(CALLS + " times " + name + " make no objects, " + taken, taken <= MOST_BYTES);
        count(name + ", after", board);
    }

    private static long bytes() {
        com.sun.management.ThreadMXBean bean = (com.sun.management.ThreadMXBean) ManagementFactory.getThreadMXBean();
        return bean.getThreadAllocatedBytes(Thread.currentThread().getId());
    }

    /** Counts all that can be come to from an object: objects and arrays, and their fields and elements. */
    private static void count(String name, Object root) throws IllegalAccessException {
        Set<Object> seen = Collections.newSetFromMap(new IdentityHashMap<>());
        Deque<Object> open = new ArrayDeque<>();
        open.add(root);
        int elements = 0;
        while (!open.isEmpty()) {
            Object one = open.remove();
            if (!seen.add(one)) {
                continue;
            }
            if (one.getClass().isArray()) {
                elements += Array.getLength(one);
                for (int i = 0; i < Array.getLength(one); i++) {
                    addObject(open, Array.get(one, i), one.getClass().getComponentType());
                }
                continue;
            }
            for (Field field : one.getClass().getDeclaredFields()) {
                if (!Modifier.isStatic(field.getModifiers())) {
                    elements++;
                    field.setAccessible(true);
                    addObject(open, field.get(one), field.getType());
                }
            }
        }
        Script.check(name + ": objects " + seen.size(), seen.size() > 1 && seen.size() <= MOST_OBJECTS);
        Script.check(name + ": elements " + elements, elements > 96 && elements <= MOST_ELEMENTS);
    }

    private static void addObject(Deque<Object> open, Object one, Class<?> type) {
        if (one != null && !type.isPrimitive()) {
            open.add(one);
        }
    }
}
