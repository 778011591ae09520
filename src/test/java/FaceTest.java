import java.lang.reflect.Constructor;
import java.lang.reflect.Field;
import java.lang.reflect.Method;
import java.lang.reflect.Modifier;
import java.util.Arrays;
import java.util.TreeSet;

/** The public face is the document's, and nothing else of the class can be seen from outside. */
public final class FaceTest {
    private static final String[] FACE = {
        "int heading(int) IllegalArgumentException IllegalStateException",
        "int note(int,int,int,int) IllegalArgumentException IllegalStateException",
        "int fact(int,int,int) IllegalArgumentException",
        "int classify(int) IllegalArgumentException",
        "int rate(int,int,int,int,int,int,int) IllegalArgumentException IllegalStateException",
        "int rateFor(int,int,int) IllegalArgumentException",
        "int quota(int,int,int,int,int,int) IllegalArgumentException IllegalStateException",
        "int quotaLeft(int) IllegalArgumentException",
        "int part(int,int,int,int) IllegalArgumentException IllegalStateException",
        "void zone(int,int) IllegalArgumentException",
        "void rule(int,int,int) IllegalArgumentException",
        "boolean madeIn(int,int) IllegalArgumentException",
        "int declare(int,int) IllegalArgumentException IllegalStateException",
        "int line(int,int,int,int,int,int,boolean) IllegalArgumentException IllegalStateException",
        "void charge(int,int,int) IllegalArgumentException IllegalStateException",
        "long lineOf(int,int,int) IllegalArgumentException NoSuchElementException",
        "long accept(int) IllegalArgumentException IllegalStateException NoSuchElementException"
                + " UnsupportedOperationException",
        "long amend(int,int,int,int) IllegalArgumentException IllegalStateException NoSuchElementException",
        "long release(int,int) IllegalArgumentException IllegalStateException",
        "long export(int,int) IllegalArgumentException IllegalStateException",
        "int work(int,int,int,int) IllegalArgumentException IllegalStateException"
                + " UnsupportedOperationException",
        "long lot(int,int) IllegalArgumentException",
        "long account(int,int) IllegalArgumentException",
        "long books(int) IllegalArgumentException",
    };

    public static void main(String[] args) {
        checkMethods();
        checkRest();
        Run.finish();
    }

    private static void checkMethods() {
        TreeSet<String> due = new TreeSet<>(Arrays.asList(FACE));
        TreeSet<String> seen = new TreeSet<>();
        TreeSet<String> publicNames = new TreeSet<>();
        for (Method method : BorderDesk.class.getDeclaredMethods()) {
            if (Modifier.isPublic(method.getModifiers())) {
                publicNames.add(method.getName());
            }
        }
        for (Method method : BorderDesk.class.getDeclaredMethods()) {
            if (!Modifier.isPrivate(method.getModifiers())) {
                seen.add(told(method));
            } else if (publicNames.contains(method.getName())) {
                Run.fault("a private method bears the public name " + method.getName());
            }
        }
        if (!seen.equals(due)) {
            Run.fault("methods are " + seen + ", due are " + due);
        }
    }

    private static String told(Method method) {
        StringBuilder text = new StringBuilder();
        text.append(method.getReturnType().getSimpleName()).append(' ').append(method.getName()).append('(');
        String comma = "";
        for (Class<?> type : method.getParameterTypes()) {
            text.append(comma).append(type.getSimpleName());
            comma = ",";
        }
        text.append(')');
        for (Class<?> type : method.getExceptionTypes()) {
            text.append(' ').append(type.getSimpleName());
        }
        return text.toString();
    }

    private static void checkRest() {
        if (!Modifier.isFinal(BorderDesk.class.getModifiers())) {
            Run.fault("the class is not final");
        }
        Constructor<?>[] constructors = BorderDesk.class.getDeclaredConstructors();
        if (constructors.length != 1 || constructors[0].getParameterCount() != 0
                || !Modifier.isPublic(constructors[0].getModifiers())) {
            Run.fault("constructors are " + Arrays.toString(constructors));
        }
        for (Field field : BorderDesk.class.getDeclaredFields()) {
            if (!Modifier.isPrivate(field.getModifiers()) && !field.getName().equals("NONE")) {
                Run.fault("field " + field.getName() + " can be seen");
            }
        }
        if (BorderDesk.NONE != -1) {
            Run.fault("NONE is " + BorderDesk.NONE);
        }
    }
}
