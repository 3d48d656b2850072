import java.lang.reflect.Constructor;
import java.lang.reflect.Field;
import java.lang.reflect.Method;
import java.lang.reflect.Modifier;
import java.util.Arrays;
import java.util.Map;
import java.util.Set;
import java.util.TreeMap;
import java.util.TreeSet;

/** The face of the class is the document's, and nothing else of it can be seen (LANGUAGE.md, rules 1 and 5). */
public final class FaceTests {
    private static final String INDEX = " IndexOutOfBoundsException";
    private static final String ARGUMENT = " IllegalArgumentException";
    private static final String STATE = " IllegalStateException";
    private static final String ELEMENT = " NoSuchElementException";

    private FaceTests() {
    }

    private static Map<String, String> face() {
        Map<String, String> face = new TreeMap<>();
        face.put("append", "5" + STATE);
        face.put("load", "1" + ARGUMENT);
        face.put("errorPosition", "0");
        face.put("count", "1" + ARGUMENT);
        face.put("cell", "2" + INDEX + ARGUMENT);
        face.put("piece", "2" + INDEX);
        face.put("player", "2" + ARGUMENT);
        face.put("highest", "1" + ARGUMENT + ELEMENT);
        face.put("reason", "1" + ARGUMENT);
        face.put("carry", "3" + INDEX + ARGUMENT + STATE);
        face.put("roll", "1" + INDEX + STATE);
        face.put("drop", "1" + INDEX + STATE);
        face.put("moves", "0");
        face.put("move", "1" + INDEX);
        face.put("would", "4" + INDEX + ARGUMENT + STATE);
        face.put("threats", "1" + INDEX);
        face.put("reach", "1" + INDEX);
        face.put("result", "2" + ARGUMENT + STATE);
        face.put("best", "1" + ARGUMENT + ELEMENT);
        face.put("answers", "1" + ARGUMENT + STATE);
        face.put("setTurn", "1" + ARGUMENT);
        face.put("setPeriod", "1" + ARGUMENT);
        face.put("rotateCaps", "0");
        face.put("writeStack", "1" + INDEX);
        face.put("writtenByte", "1" + INDEX);
        face.put("undo", "0" + STATE);
        face.put("save", "1" + INDEX);
        face.put("restore", "1" + INDEX + STATE);
        face.put("differing", "1" + INDEX);
        return face;
    }

    private static String shapeOf(Method method) {
        StringBuilder shape = new StringBuilder().append(method.getParameterCount());
        for (Class<?> type : method.getParameterTypes()) {
            Checks.due("a parameter of " + method.getName(), type.getName(), "int");
        }
        for (Class<?> exception : method.getExceptionTypes()) {
            shape.append(' ').append(exception.getSimpleName());
        }
        return shape.toString();
    }

    private static void checkMethods() {
        Map<String, String> seen = new TreeMap<>();
        Set<String> hidden = new TreeSet<>();
        for (Method method : TowerRing.class.getDeclaredMethods()) {
            if (Modifier.isPrivate(method.getModifiers())) {
                hidden.add(method.getName());
            } else {
                Checks.due("modifiers of " + method.getName(), Modifier.toString(method.getModifiers()), "public");
                Checks.due("type of " + method.getName(), method.getReturnType().getName(), "int");
                Checks.due("one method named " + method.getName(), String.valueOf(seen.put(method.getName(),
                        shapeOf(method))), "null");
            }
        }
        Checks.due("the methods", seen.toString(), face().toString());
        for (Class<?> inside : TowerRing.class.getDeclaredClasses()) {
            Arrays.stream(inside.getDeclaredMethods()).forEach(method -> hidden.add(method.getName()));
        }
        hidden.retainAll(face().keySet());
        Checks.due("private methods with a public name", hidden.toString(), "[]");
    }

    private static void checkFields() {
        Set<String> seen = new TreeSet<>();
        for (Field field : TowerRing.class.getDeclaredFields()) {
            if (!Modifier.isPrivate(field.getModifiers())) {
                seen.add(Modifier.toString(field.getModifiers()) + " " + field.getType() + " " + field.getName());
            }
        }
        Checks.due("the constants", seen.toString(), "[public static final int NONE, "
                + "public static final int SYNTAX_ERROR, public static final int VALUE_ERROR]");
        Checks.due("NONE", String.valueOf(TowerRing.NONE), "-1");
        Checks.due("SYNTAX_ERROR", String.valueOf(TowerRing.SYNTAX_ERROR), "-2");
        Checks.due("VALUE_ERROR", String.valueOf(TowerRing.VALUE_ERROR), "-3");
    }

    private static void checkStatics(Class<?> type) {
        for (Field field : type.getDeclaredFields()) {
            if (Modifier.isStatic(field.getModifiers())) {
                Checks.dueTrue(field + " is final", Modifier.isFinal(field.getModifiers()));
                Checks.dueTrue(field + " is a number", field.getType().isPrimitive());
            }
        }
    }

    /** Whatever the arguments are, a call answers or throws what the document names. */
    private static void checkStrangeArguments(String text) {
        int[] strange = {Integer.MIN_VALUE, -1, 0, 1, 3000, Integer.MAX_VALUE};
        for (Map.Entry<String, String> method : face().entrySet()) {
            int arguments = method.getValue().charAt(0) - '0';
            int calls = 1;
            for (int i = 0; i < arguments; i++) {
                calls *= strange.length;
            }
            TowerRing ring = new TowerRing();
            for (int call = 0; call < calls; call++) {
                if (call % 100 == 0) {
                    ring = Checks.game(text);
                }
                int[] values = new int[arguments];
                for (int i = 0, rest = call; i < arguments; i++, rest /= strange.length) {
                    values[i] = strange[rest % strange.length];
                }
                String answer = Checks.call(ring, method.getKey(), values);
                boolean isNamed = !answer.startsWith("throws")
                        || Arrays.asList(method.getValue().split(" ")).contains(answer.substring(7));
                Checks.dueTrue(method.getKey() + Arrays.toString(values) + " answered " + answer, isNamed);
            }
        }
    }

    public static void main(String[] args) {
        Checks.begin("the face");
        Checks.due("the class", Modifier.toString(TowerRing.class.getModifiers()), "public final");
        Checks.due("its package", TowerRing.class.getPackageName(), "");
        Constructor<?>[] constructors = TowerRing.class.getDeclaredConstructors();
        Checks.due("the constructors", Arrays.toString(constructors), "[public TowerRing()]");
        checkMethods();
        checkFields();
        checkStatics(TowerRing.class);
        checkStrangeArguments("caps 1 1 1 1 1;");
        checkStrangeArguments("caps 8 8 8 8 8 8 8 8 8 8 8 8; reserve 9 9; period 1; stack 0 aaaa; stack 1 bba; stack 5 b;");
        for (Class<?> inside : TowerRing.class.getDeclaredClasses()) {
            Checks.due("modifiers of " + inside.getName(), Modifier.toString(inside.getModifiers()),
                    "private static final");
            checkStatics(inside);
        }
        Checks.end();
    }
}
