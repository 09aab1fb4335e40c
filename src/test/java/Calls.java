import java.lang.reflect.InvocationTargetException;
import java.lang.reflect.Method;

/** Makes a call by its name, on the class itself or on a model of it, and writes its answer as a text. */
final class Calls {
    static final String NO_ANSWER = "-";

    private Calls() {
    }

    static String answer(Object x, String name, int... arguments) {
        Object[] boxed = new Object[arguments.length];
        for (int i = 0; i < arguments.length; i++) {
            boxed[i] = arguments[i];
        }
        try {
            Object got = method(x, name, arguments.length).invoke(x, boxed);
            return got == null ? NO_ANSWER : got.toString();
        } catch (InvocationTargetException e) {
            return "throws." + e.getCause().getClass().getSimpleName();
        } catch (IllegalAccessException e) {
            throw new AssertionError(name + " can't be called", e);
        }
    }

    private static Method method(Object x, String name, int arity) {
        for (Method m : x.getClass().getDeclaredMethods()) {
            if (m.getName().equals(name) && m.getParameterCount() == arity) {
                return m;
            }
        }
        throw new AssertionError("no method " + name + " with " + arity + " parameters");
    }
}
