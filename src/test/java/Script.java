import java.lang.reflect.InvocationTargetException;
import java.lang.reflect.Method;
import java.util.ArrayList;
import java.util.List;

/**
 * Runs calls that are told as in the document: "net(false) = 0; pin(0, 0, 0) = 0; pin(0, 9, 0) = throws
 * UnsupportedOperationException". A call without an answer is only made, and must not throw. Two calls more are
 * known: type("r0;x1") appends each character, and shows(row, layer) answers the whole line, as in
 * shows(0, 1) = "A..b".
 */
final class Script {
    private static int passed = 0;
    private static int failed = 0;

    private Script() {
    }

    static void run(String name, String calls) {
        runOn(new WireBoard(), name, calls);
    }

    static void runOn(WireBoard board, String name, String calls) {
        int index = 0;
        for (String row : split(calls, ';')) {
            index++;
            if (row.isEmpty()) {
                continue;
            }
            List<String> sides = split(row, '=');
            String got = answer(board, sides.get(0));
            if (sides.size() < 2) {
                check(name, index, sides.get(0), !got.startsWith("throws"), got, "an answer");
            } else {
                String want = sides.get(1).replace("throws.", "throws ");
                check(name, index, sides.get(0), same(got, want), got, want);
            }
        }
    }

    static void check(String name, boolean holds) {
        check(name, 0, "it", holds, "false", "true");
    }

    static void finish() {
        System.out.println(passed + " checks hold, " + failed + " do not");
        System.exit(failed == 0 && passed > 0 ? 0 : 1);
    }

    private static void check(String name, int index, String call, boolean holds, String got, String want) {
        if (holds) {
            passed++;
        } else {
            failed++;
            System.out.println(name + ", call " + index + ": " + call + " answered " + got + ", due is " + want);
        }
    }

    private static boolean same(String got, String want) {
        if (got.equals(want)) {
            return true;
        }
        boolean isNumber = want.matches("-?[0-9.]+") && got.matches("-?[0-9.]+");
        return isNumber && Double.parseDouble(got) == Double.parseDouble(want);
    }

    private static List<String> split(String all, char sign) {
        List<String> parts = new ArrayList<>();
        boolean isQuoted = false;
        int start = 0;
        for (int i = 0; i < all.length(); i++) {
            char c = all.charAt(i);
            if (c == '"' || c == '\'') {
                isQuoted = !isQuoted;
            } else if (c == sign && !isQuoted) {
                parts.add(all.substring(start, i).trim());
                start = i + 1;
            }
        }
        parts.add(all.substring(start).trim());
        return parts;
    }

    private static String answer(WireBoard board, String call) {
        String name = call.substring(0, call.indexOf('(')).trim();
        String inside = call.substring(call.indexOf('(') + 1, call.lastIndexOf(')'));
        List<String> given = inside.isBlank() ? new ArrayList<>() : split(inside, ',');
        if (name.equals("type")) {
            String all = given.get(0).substring(1, given.get(0).length() - 1);
            for (char c : all.toCharArray()) {
                board.append(c);
            }
            return "";
        }
        if (name.equals("shows")) {
            int length = board.line(Integer.parseInt(given.get(0)), Integer.parseInt(given.get(1)));
            StringBuilder line = new StringBuilder("\"");
            for (int i = 0; i < length; i++) {
                line.append(board.character(i));
            }
            return line.append('"').toString();
        }
        return answerOf(board, name, given);
    }

    private static String answerOf(WireBoard board, String name, List<String> given) {
        for (Method method : WireBoard.class.getMethods()) {
            if (method.getName().equals(name) && method.getParameterCount() == given.size()) {
                Object[] values = new Object[given.size()];
                for (int i = 0; i < values.length; i++) {
                    values[i] = value(given.get(i), method.getParameterTypes()[i]);
                }
                try {
                    Object got = method.invoke(board, values);
                    return got instanceof Character ? "'" + got + "'" : String.valueOf(got);
                } catch (InvocationTargetException e) {
                    return "throws " + e.getCause().getClass().getSimpleName();
                } catch (IllegalAccessException e) {
                    throw new IllegalStateException(e);
                }
            }
        }
        throw new IllegalArgumentException("no method " + name + " with " + given.size() + " arguments");
    }

    private static Object value(String word, Class<?> type) {
        if (type == boolean.class) {
            return Boolean.valueOf(word);
        }
        if (type == char.class) {
            return word.startsWith("'") ? word.charAt(1) : (char) Integer.parseInt(word);
        }
        return Integer.valueOf(word);
    }
}
