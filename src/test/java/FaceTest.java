import java.io.IOException;
import java.lang.reflect.Constructor;
import java.lang.reflect.Field;
import java.lang.reflect.Method;
import java.lang.reflect.Modifier;
import java.util.ArrayList;
import java.util.Collections;
import java.util.List;

/** The public face: exactly the document's members, with its exceptions, and nothing else to be seen. */
public final class FaceTest {
    private static final String[] FACE = {
        "int level() throws S",
        "void column(int int int int) throws I A S",
        "int replay(int) throws I S",
        "int input(int int int) throws I A S",
        "int result(int) throws I",
        "int used(int) throws I",
        "int where(int int) throws I",
        "int category(int) throws I S",
        "int rule(int int int int int) throws I A S",
        "int pass(int) throws A S",
        "int submit(int int int) throws I A S",
        "int judged(int) throws I",
        "boolean strike(int) throws I",
        "int best(int int) throws I",
        "int bestAnew(int int) throws I",
        "int place(int int) throws I",
        "int at(int int) throws I",
        "int placeWithout(int) throws I",
        "int estimate(int int) throws I",
        "int offer(int int) throws I S",
        "int gift(int int) throws I A S",
        "int plan(int) throws A",
    };

    public static void main(String[] args) throws IOException {
        List<String> due = new ArrayList<>(List.of(FACE));
        List<String> got = new ArrayList<>();
        for (Method method : SplitGate.class.getDeclaredMethods()) {
            if (!Modifier.isPrivate(method.getModifiers()) && !method.isSynthetic()) {
                got.add(told(method));
            }
        }
        Collections.sort(due);
        Collections.sort(got);
        if (!got.equals(due)) {
            Check.report("the face is " + got + ", due is " + due);
        }
        for (Field field : SplitGate.class.getDeclaredFields()) {
            Check.due("private field " + field.getName(), Modifier.isPrivate(field.getModifiers()), true);
        }
        Constructor<?>[] constructors = SplitGate.class.getDeclaredConstructors();
        Check.due("constructors", constructors.length, 1);
        Check.due("parameters of the constructor", constructors[0].getParameterCount(), 0);
        Check.due("the constructor is public", Modifier.isPublic(constructors[0].getModifiers()), true);
        Check.due("the class is public and final", SplitGate.class.getModifiers(), Modifier.PUBLIC | Modifier.FINAL);
        Document.compareWithFace();
        Check.end();
    }

    private static String told(Method method) {
        StringBuilder text = new StringBuilder();
        text.append(method.getReturnType().getName()).append(' ').append(method.getName()).append('(');
        String between = "";
        for (Class<?> parameter : method.getParameterTypes()) {
            text.append(between).append(parameter.getName());
            between = " ";
        }
        text.append(") throws");
        for (Class<?> thrown : method.getExceptionTypes()) {
            text.append(' ').append(letter(thrown));
        }
        return text.toString();
    }

    private static String letter(Class<?> thrown) {
        if (thrown == IndexOutOfBoundsException.class) {
            return "I";
        }
        if (thrown == IllegalArgumentException.class) {
            return "A";
        }
        return thrown == IllegalStateException.class ? "S" : thrown.getName();
    }
}
