import java.lang.reflect.InvocationTargetException;
import java.lang.reflect.Method;
import java.util.HashMap;
import java.util.Map;

/** Calls methods of an object by their names, and tells each answer as a text. */
final class Calls {
    private final Object object;
    private final Map<String, Method> methods = new HashMap<>();
    private int made;

    Calls(Object object) {
        this.object = object;
        for (Method method : object.getClass().getDeclaredMethods()) {
            if (java.lang.reflect.Modifier.isPublic(method.getModifiers())) {
                method.setAccessible(true);
                methods.put(method.getName(), method);
            }
        }
    }

    /** How many calls were made. */
    int made() {
        return made;
    }

    /** The answer of a call like "ask(0, 1, -2, 9)"; a boolean is 1 or 0, an exception "throws." and its name. */
    String answer(String call) {
        int open = call.indexOf('(');
        String name = call.substring(0, open).trim();
        String inside = call.substring(open + 1, call.lastIndexOf(')')).trim();
        String[] words = inside.isEmpty() ? new String[0] : inside.split("\\s*,\\s*");
        Method method = methods.get(name);
        if (method == null || method.getParameterCount() != words.length) {
            throw new AssertionError("no such method: " + call);
        }
        Object[] arguments = new Object[words.length];
        for (int k = 0; k < words.length; k++) {
            boolean isFlag = method.getParameterTypes()[k] == boolean.class;
            arguments[k] = isFlag ? (Object) Boolean.valueOf(words[k]) : (Object) Integer.valueOf(words[k]);
        }
        return answer(method, arguments);
    }

    private String answer(Method method, Object[] arguments) {
        made++;
        try {
            Object answer = method.invoke(object, arguments);
            return answer instanceof Boolean ? ((Boolean) answer ? "1" : "0") : String.valueOf(answer);
        } catch (InvocationTargetException e) {
            return "throws." + e.getCause().getClass().getSimpleName();
        } catch (IllegalAccessException e) {
            throw new AssertionError(e);
        }
    }
}
