import java.lang.reflect.Constructor;
import java.lang.reflect.Field;
import java.lang.reflect.Method;
import java.lang.reflect.Modifier;
import java.util.Arrays;
import java.util.Set;
import java.util.TreeSet;

/** The class shows the document's face, and nothing else that is not private. */
public final class AlarmBenchFace {
    private static final String BOTH = " throws IllegalArgumentException IllegalStateException";
    private static final String ARGUMENT = " throws IllegalArgumentException";
    private static final Set<String> FACE = new TreeSet<>(Arrays.asList(
        "public static final int NONE",
        "public AlarmBench()",
        "public int set(int, int)" + BOTH,
        "public int shift(int, int)" + BOTH,
        "public int stop(int)" + ARGUMENT,
        "public int stopAll(int)",
        "public int pass(int)" + BOTH,
        "public int ring()",
        "public int told()",
        "public int wasDue()",
        "public int next()",
        "public int about(int, int)" + ARGUMENT,
        "public int count(boolean)",
        "public int time()"));

    public static void main(String[] args) {
        Set<String> found = new TreeSet<>();
        for (Field field : AlarmBench.class.getDeclaredFields()) {
            if (!Modifier.isPrivate(field.getModifiers())) {
                found.add(Modifier.toString(field.getModifiers()) + " " + field.getType() + " " + field.getName());
            }
        }
        for (Constructor<?> made : AlarmBench.class.getDeclaredConstructors()) {
            found.add(Modifier.toString(made.getModifiers()) + " AlarmBench" + inBrackets(made.getParameterTypes())
                + thrown(made.getExceptionTypes()));
        }
        for (Method method : AlarmBench.class.getDeclaredMethods()) {
            if (!Modifier.isPrivate(method.getModifiers())) {
                found.add(Modifier.toString(method.getModifiers()) + " " + method.getReturnType() + " "
                    + method.getName() + inBrackets(method.getParameterTypes()) + thrown(method.getExceptionTypes()));
            }
        }
        boolean wrong = false;
        if (AlarmBench.class.getModifiers() != (Modifier.PUBLIC | Modifier.FINAL)) {
            System.out.println("the class is not public and final alone");
            wrong = true;
        }
        if (!found.equals(FACE)) {
            System.out.println("the face is " + found + ", due is " + FACE);
            wrong = true;
        }
        System.out.println(wrong ? "the face is not as due" : "the face is as due");
        if (wrong) {
            System.exit(1);
        }
    }

    private static String inBrackets(Class<?>[] types) {
        return Arrays.toString(types).replace('[', '(').replace(']', ')');
    }

    private static String thrown(Class<?>[] types) {
        StringBuilder text = new StringBuilder(types.length == 0 ? "" : " throws");
        Arrays.stream(types).map(Class::getSimpleName).sorted().forEach(name -> text.append(' ').append(name));
        return text.toString();
    }
}
