import java.lang.reflect.InvocationTargetException;
import java.lang.reflect.Method;
import java.nio.charset.StandardCharsets;

/** Calls by name, and a count of the answers that are not due. */
final class Checks {
    private static int wrong = 0;
    private static int checked = 0;
    private static String part = "";

    private Checks() {
    }

    static void begin(String name) {
        part = name;
    }

    static void due(String call, String got, String want) {
        checked++;
        if (!got.equals(want)) {
            wrong++;
            if (wrong <= 50) {
                System.out.println(part + ": " + call + " answered " + got + ", due is " + want);
            }
        }
    }

    static void dueTrue(String what, boolean holds) {
        due(what, String.valueOf(holds), "true");
    }

    static int checkedSoFar() {
        return checked;
    }

    /** Ends the program, with exit code 1 if an answer was wrong. */
    static void end() {
        System.out.println(checked + " checks, " + wrong + " wrong");
        System.exit(wrong == 0 && checked > 0 ? 0 : 1);
    }

    /** The answer of a call as a text, or 'throws' and the name of the exception. */
    static String call(Object target, String name, int... arguments) {
        Object[] values = new Object[arguments.length];
        Class<?>[] types = new Class<?>[arguments.length];
        for (int i = 0; i < arguments.length; i++) {
            values[i] = arguments[i];
            types[i] = int.class;
        }
        try {
            Method method = target.getClass().getDeclaredMethod(name, types);
            method.setAccessible(true);
            return String.valueOf(method.invoke(target, values));
        } catch (InvocationTargetException e) {
            return "throws " + e.getCause().getClass().getSimpleName();
        } catch (ReflectiveOperationException e) {
            throw new AssertionError(e);
        }
    }

    /** The answer of a call written as "name(1, 2)". */
    static String callWritten(Object target, String call) {
        return call(target, nameOf(call), argumentsOf(call));
    }

    static void due(Object target, String call, String want) {
        due(call, callWritten(target, call), want);
    }

    static void due(Object target, String call, int want) {
        due(target, call, String.valueOf(want));
    }

    private static String nameOf(String call) {
        return call.substring(0, call.indexOf('('));
    }

    private static int[] argumentsOf(String call) {
        String inside = call.substring(call.indexOf('(') + 1, call.length() - 1).trim();
        if (inside.isEmpty()) {
            return new int[0];
        }
        String[] parts = inside.split(",");
        int[] values = new int[parts.length];
        for (int i = 0; i < parts.length; i++) {
            values[i] = Integer.parseInt(parts[i].trim());
        }
        return values;
    }

    /** Puts a text, filled up by spaces to whole calls of append, into the buffer. */
    static void fill(Object target, String text) {
        byte[] bytes = text.getBytes(StandardCharsets.ISO_8859_1);
        for (int from = 0; from < bytes.length; from += 20) {
            int[] words = new int[5];
            for (int i = 0; i < 20; i++) {
                int b = from + i < bytes.length ? bytes[from + i] & 255 : ' ';
                words[i / 4] = words[i / 4] << 8 | b;
            }
            call(target, "append", words);
        }
    }

    /** Fills the buffer and loads; answers what load answers. */
    static String load(Object target, String text) {
        fill(target, text);
        return call(target, "load", text.length());
    }

    static TowerRing game(String text) {
        TowerRing ring = new TowerRing();
        String answer = load(ring, text);
        dueTrue("load of \"" + text + "\" answers " + answer, !answer.startsWith("-") && !answer.startsWith("throws"));
        return ring;
    }

    /** The written text of a stack. */
    static String stack(Object target, int cell) {
        int length = Integer.parseInt(call(target, "writeStack", cell));
        StringBuilder text = new StringBuilder();
        for (int i = 0; i < length; i++) {
            text.append((char) Integer.parseInt(call(target, "writtenByte", i)));
        }
        return text.toString();
    }

    /** All that a caller can see of a game, but for what the text calls tell. */
    static String view(Object target) {
        StringBuilder text = new StringBuilder();
        for (int what = 0; what < 10; what++) {
            text.append(call(target, "count", what)).append(' ');
        }
        int cells = Integer.parseInt(call(target, "count", 0));
        for (int cell = 0; cell < cells; cell++) {
            text.append("| ").append(call(target, "cell", cell, 0)).append(' ');
            int height = Integer.parseInt(call(target, "cell", cell, 1));
            for (int piece = 0; piece < height; piece++) {
                text.append(call(target, "piece", cell, piece));
            }
        }
        for (int player = 1; player <= 2; player++) {
            for (int what = 0; what < 6; what++) {
                text.append(' ').append(call(target, "player", player, what));
            }
        }
        return text.append(" moves ").append(call(target, "moves")).toString();
    }
}
