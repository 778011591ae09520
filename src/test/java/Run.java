import java.lang.reflect.InvocationTargetException;
import java.lang.reflect.Method;

/**
 * A run of calls on a new desk, told in rows such as "heading(-1) -> 0". What stands behind the
 * arrow is the answer that is due: a number, true or false, done (for a call without an answer)
 * or the name of the exception. Text behind a # is a remark.
 */
final class Run {
    /** The document promises nothing about an object after so many calls. */
    private static final int MOST_CALLS = 512;

    private static int wrong = 0;

    private final BorderDesk desk = new BorderDesk();
    private final String name;
    private int calls = 0;

    Run(String name) {
        this.name = name;
    }

    Run rows(String rows) {
        for (String row : rows.split("\n")) {
            String told = row.replaceFirst("#.*", "").trim();
            if (!told.isEmpty()) {
                row(told);
            }
        }
        return this;
    }

    /** The same row several times; every $ in it stands for the number of the turn, 0 at first. */
    Run times(int turns, String row) {
        for (int turn = 0; turn < turns; turn++) {
            row(row.replace("$", Integer.toString(turn)));
        }
        return this;
    }

    /** The same call several times, whose answers are due to count up from a first one. */
    Run counting(int turns, String call, int first) {
        for (int turn = 0; turn < turns; turn++) {
            row(call + " -> " + (first + turn));
        }
        return this;
    }

    /** Ends the program with exit code 1 if an answer of any run was not the one that was due. */
    static void finish() {
        if (wrong > 0) {
            System.out.println(wrong + " answers are not as due");
            System.exit(1);
        }
    }

    static void fault(String text) {
        wrong++;
        System.out.println(text);
    }

    private void row(String row) {
        String[] sides = row.split("->");
        String call = sides[0].trim();
        String due = sides[1].trim();
        calls++;
        if (calls > MOST_CALLS) {
            fault(name + ": too many calls for one object");
        }
        String answer = answerOf(call);
        if (!answer.equals(due)) {
            fault(name + ": " + call + " answered " + answer + ", due is " + due);
        }
    }

    private String answerOf(String call) {
        int open = call.indexOf('(');
        String inside = call.substring(open + 1, call.lastIndexOf(')')).trim();
        String[] texts = inside.isEmpty() ? new String[0] : inside.split("\\s*,\\s*");
        Method method = methodOf(desk, call.substring(0, open));
        Object[] arguments = new Object[texts.length];
        for (int i = 0; i < texts.length; i++) {
            boolean isFlag = method.getParameterTypes()[i] == boolean.class;
            arguments[i] = isFlag ? (Object) Boolean.valueOf(texts[i]) : (Object) Integer.valueOf(texts[i]);
        }
        return answer(desk, method.getName(), arguments);
    }

    /** What a call answers, in the words that rows have for it. */
    static String answer(Object object, String name, Object[] arguments) {
        try {
            Object answer = methodOf(object, name).invoke(object, arguments);
            return answer == null ? "done" : answer.toString();
        } catch (InvocationTargetException thrown) {
            return thrown.getCause().getClass().getSimpleName();
        } catch (IllegalAccessException hidden) {
            throw new IllegalStateException(hidden);
        }
    }

    private static Method methodOf(Object object, String name) {
        for (Method method : object.getClass().getDeclaredMethods()) {
            if (method.getName().equals(name)) {
                return method;
            }
        }
        throw new IllegalStateException("no method " + name);
    }
}
