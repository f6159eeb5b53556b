import java.lang.reflect.InvocationTargetException;
import java.lang.reflect.Method;
import java.util.HashMap;
import java.util.Map;

/** Every call of the face by its name, on the class and on the model alike. */
final class Calls {
    static final String[] NAMES = {"winter", "ofComer", "ofGate", "show", "lead", "bake", "manner", "chalk", "day",
        "know", "far", "lantern", "best", "without", "gain", "needs", "parted", "given", "settles", "more", "reading",
        "back", "kinds", "shows", "chalks", "odds", "sheet", "lose", "put", "cell", "copy", "tell", "greet", "as",
        "trace", "fault", "many"};

    private final Object object;
    private final Map<String, Method> methods = new HashMap<>();

    Calls(Object object) {
        this.object = object;
        for (Method m : object.getClass().getDeclaredMethods()) methods.put(m.getName(), m);
    }

    /** Takes as many of the numbers as the call wants. */
    long answer(String name, int... a) {
        Method m = methods.get(name);
        Object[] taken = new Object[m.getParameterCount()];
        for (int k = 0; k < taken.length; k++) taken[k] = a[k];
        try {
            return ((Number) m.invoke(object, taken)).longValue();
        } catch (InvocationTargetException | IllegalAccessException thrown) {
            throw new IllegalStateException(name + " threw " + thrown.getCause(), thrown);
        }
    }
}
