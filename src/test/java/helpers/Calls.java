import java.lang.reflect.InvocationTargetException;
import java.lang.reflect.Method;
import java.util.HashMap;
import java.util.Map;

/** Makes calls that are written as text, such as "buy(0, 1, 500)", and tells their answers as text. */
final class Calls {
    private static final Map<String, Method> METHODS = new HashMap<>();
    private static final Map<String, Call> READ = new HashMap<>();

    private record Call(String name, Object[] arguments) {
    }

    private Calls() {
    }

    /** The answer as a number, or throws. and the simple name of the exception. */
    static String answer(Object hall, String text) {
        Call call = READ.computeIfAbsent(text, Calls::read);
        return answer(hall, call.name, call.arguments);
    }

    private static Call read(String text) {
        int open = text.indexOf('(');
        String inside = text.substring(open + 1, text.indexOf(')')).trim();
        String[] words = inside.isEmpty() ? new String[0] : inside.split("\\s*,\\s*");
        Object[] arguments = new Object[words.length];
        for (int i = 0; i < words.length; i++) {
            arguments[i] = Integer.parseInt(words[i]);
        }
        return new Call(text.substring(0, open).trim(), arguments);
    }

    static String answer(Object hall, String name, Object... arguments) {
        try {
            return String.valueOf(method(hall, name, arguments.length).invoke(hall, arguments));
        } catch (InvocationTargetException e) {
            return tell(hall, e.getCause());
        } catch (IllegalAccessException e) {
            throw new AssertionError(e);
        }
    }

    /** An exception that no throw of the hall's own has made is told apart: the machine, or its library, threw it. */
    private static String tell(Object hall, Throwable thrown) {
        StackTraceElement[] stack = thrown.getStackTrace();
        boolean own = stack.length > 0 && stack[0].getClassName().startsWith(hall.getClass().getName());
        return (own ? "throws." : "machine.") + thrown.getClass().getSimpleName();
    }

    private static Method method(Object hall, String name, int arguments) {
        String key = hall.getClass().getName() + "." + name + "/" + arguments;
        return METHODS.computeIfAbsent(key, k -> find(hall.getClass(), name, arguments));
    }

    private static Method find(Class<?> kind, String name, int arguments) {
        for (Method method : kind.getDeclaredMethods()) {
            if (method.getName().equals(name) && method.getParameterCount() == arguments) {
                method.setAccessible(true);
                return method;
            }
        }
        throw new AssertionError("no method " + name + " of " + arguments + " arguments");
    }
}
