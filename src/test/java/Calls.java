import java.lang.reflect.InvocationTargetException;
import java.lang.reflect.Method;
import java.util.HashMap;
import java.util.Map;

/** Calls the face of an object by name, so that the program and the model can be asked the same. */
final class Calls {
    private final Object asked;
    private final Map<String, Method> methods = new HashMap<>();

    Calls(Object asked) {
        this.asked = asked;
        for (Method method : asked.getClass().getDeclaredMethods()) {
            if (java.lang.reflect.Modifier.isPublic(method.getModifiers())) {
                method.setAccessible(true);
                methods.put(method.getName(), method);
            }
        }
    }

    /** The answer as a text; throws.Name if the call throws. */
    String answer(String name, int... arguments) {
        Object[] boxed = new Object[arguments.length];
        for (int i = 0; i < arguments.length; i++) {
            boxed[i] = arguments[i];
        }
        Method method = methods.get(name);
        if (method == null) {
            throw new IllegalArgumentException("no such call: " + name);
        }
        try {
            return String.valueOf(method.invoke(asked, boxed));
        } catch (InvocationTargetException e) {
            return "throws." + e.getCause().getClass().getSimpleName();
        } catch (IllegalAccessException e) {
            throw new IllegalStateException(e);
        }
    }
}
