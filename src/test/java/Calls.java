import java.lang.reflect.InvocationTargetException;
import java.lang.reflect.Method;
import java.lang.reflect.Modifier;
import java.util.Map;
import java.util.TreeMap;

/** Calls written as texts, "far(0, 7)", or with what is due behind them, "far(0, 7) = 4". */
final class Calls {
    private static final Map<String, Method> METHODS = methods();

    private Calls() {
    }

    /** Every public method by its name; the face has no two of one name. */
    static Map<String, Method> methods() {
        Map<String, Method> methods = new TreeMap<>();
        for (Method method : SlateHands.class.getDeclaredMethods()) {
            if (Modifier.isPublic(method.getModifiers())) {
                methods.put(method.getName(), method);
            }
        }
        return methods;
    }

    /** Asks one call behind another of one object, and holds each against what is due. */
    static void due(Check check, String name, SlateHands hands, String... lines) {
        for (String line : lines) {
            String[] halves = line.split(" = ");
            check.due(name + ": " + halves[0], asked(hands, halves[0]), number(halves[1]));
        }
    }

    static long asked(SlateHands hands, String call) {
        int opens = call.indexOf('(');
        String inner = call.substring(opens + 1, call.indexOf(')')).trim();
        String[] texts = inner.isEmpty() ? new String[0] : inner.split(",");
        long[] numbers = new long[texts.length];
        for (int i = 0; i < texts.length; i++) {
            numbers[i] = number(texts[i].trim());
        }
        return asked(hands, call.substring(0, opens), numbers);
    }

    static long asked(SlateHands hands, String name, long[] numbers) {
        Method method = METHODS.get(name);
        Object[] boxed = new Object[numbers.length];
        for (int i = 0; i < numbers.length; i++) {
            if (method.getParameterTypes()[i] == long.class) {
                boxed[i] = numbers[i];
            } else {
                boxed[i] = Math.toIntExact(numbers[i]);
            }
        }
        try {
            return ((Number) method.invoke(hands, boxed)).longValue();
        } catch (InvocationTargetException | IllegalAccessException failed) {
            throw new IllegalStateException(name, failed);
        }
    }

    private static long number(String text) {
        switch (text) {
            case "MAX": return Integer.MAX_VALUE;
            case "MIN": return Integer.MIN_VALUE;
            case "NONE": return SlateHands.NONE;
            default: return text.startsWith("0b") ? Integer.parseInt(text.substring(2), 2) : Long.parseLong(text);
        }
    }
}
