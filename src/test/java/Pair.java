import java.lang.reflect.InvocationTargetException;
import java.lang.reflect.Method;
import java.util.HashMap;
import java.util.Map;

/** The class and the model side by side: each call goes to both, and the answers must be alike. */
final class Pair {
    private final GapYard yard = new GapYard();
    private final Model model = new Model();
    private final StringBuilder log = new StringBuilder();
    private static final Map<String, Method> METHODS = new HashMap<>();
    private static int answers;
    private static int wrong;

    /** Makes a call, and returns what the class answers. */
    Object both(String name, Object... arguments) {
        Object got = answer(yard, name, arguments);
        Object due = answer(model, name, arguments);
        answers++;
        log.append(name).append(java.util.Arrays.toString(arguments)).append(' ');
        if (!got.equals(due)) {
            wrong++;
            System.out.println(log + "\n  answers " + got + ", due is " + due);
        }
        return got;
    }

    /** Asks, without keeping the call for what is told of later ones. */
    void ask(String name, Object... arguments) {
        int length = log.length();
        both(name, arguments);
        log.setLength(length);
    }

    int number(String name, Object... arguments) {
        Object got = both(name, arguments);
        return got instanceof Integer ? (Integer) got : -1;
    }

    void type(int... numbers) {
        for (int number : numbers) {
            both("type", number);
        }
    }

    int span(int... coins) {
        both("wipe");
        type(coins);
        return number("semigroup");
    }

    private static Object answer(Object target, String name, Object... arguments) {
        try {
            return find(target, name).invoke(target, arguments);
        } catch (InvocationTargetException e) {
            return e.getCause().getClass().getName();
        } catch (IllegalAccessException e) {
            throw new AssertionError(e);
        }
    }

    private static Method find(Object target, String name) {
        return METHODS.computeIfAbsent(target.getClass().getName() + '.' + name, key -> {
            for (Method method : target.getClass().getDeclaredMethods()) {
                if (method.getName().equals(name)) {
                    return method;
                }
            }
            throw new AssertionError(key);
        });
    }

    static int answers() {
        return answers;
    }

    static int wrong() {
        return wrong;
    }
}
