import java.lang.reflect.InvocationTargetException;
import java.lang.reflect.Method;
import java.util.Arrays;
import java.util.HashMap;
import java.util.Map;
import java.util.stream.Collectors;

/** A call by its name, which can be made on the program and on the model alike. */
record Call(String name, Object... arguments) {
    private static final Map<Class<?>, Map<String, Method>> METHODS = new HashMap<>();

    /** Reads a call as it is told in a row, such as "heading(-1)". */
    static Call read(String text) {
        int open = text.indexOf('(');
        String inside = text.substring(open + 1, text.lastIndexOf(')')).trim();
        String[] texts = inside.isEmpty() ? new String[0] : inside.split("\\s*,\\s*");
        Object[] arguments = new Object[texts.length];
        for (int i = 0; i < texts.length; i++) {
            boolean isFlag = texts[i].equals("true") || texts[i].equals("false");
            arguments[i] = isFlag ? (Object) Boolean.valueOf(texts[i]) : (Object) Integer.valueOf(texts[i]);
        }
        return new Call(text.substring(0, open).trim(), arguments);
    }

    /** What the call answers, in the words that rows have for it. */
    String answerOf(Object object) {
        try {
            Object answer = methodOf(object.getClass()).invoke(object, arguments);
            return answer == null ? "done" : answer.toString();
        } catch (InvocationTargetException thrown) {
            return thrown.getCause().getClass().getSimpleName();
        } catch (IllegalAccessException hidden) {
            throw new IllegalStateException(hidden);
        }
    }

    static boolean isRefusal(String answer) {
        return answer.endsWith("Exception");
    }

    private Method methodOf(Class<?> type) {
        Method method = METHODS.computeIfAbsent(type, Call::methodsByName).get(name);
        if (method == null) {
            throw new IllegalStateException("no method " + name);
        }
        return method;
    }

    private static Map<String, Method> methodsByName(Class<?> type) {
        Map<String, Method> methods = new HashMap<>();
        for (Method method : type.getDeclaredMethods()) {
            methods.put(method.getName(), method);
        }
        return methods;
    }

    @Override
    public String toString() {
        return Arrays.stream(arguments).map(Object::toString).collect(Collectors.joining(", ", name + "(", ")"));
    }
}
