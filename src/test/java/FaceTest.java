import java.lang.reflect.Constructor;
import java.lang.reflect.Field;
import java.lang.reflect.Method;
import java.lang.reflect.Modifier;
import java.util.Arrays;
import java.util.Set;
import java.util.TreeSet;

/** The public face: the document's members, as it words them, and no other visible one. */
public final class FaceTest {
    private static final Set<String> FACE = new TreeSet<>(Arrays.asList(
            "public static final int NONE",
            "public static final int FULL",
            "public LoopLaws()",
            "public int loop(double, double, double)",
            "public boolean limits(int, double, double, double)",
            "public boolean safe(int, double)",
            "public double tick(int, double, double)",
            "public boolean mode(int, int)",
            "public boolean hand(int, double)",
            "public boolean cascade(int, int)",
            "public int split(int, double)",
            "public double part(int, int)",
            "public boolean band(int, double, double)",
            "public int tune(int, int)",
            "public double tuned(int, int)",
            "public int fault(int)",
            "public boolean range(int, double, double)"));

    public static void main(String[] args) {
        Due due = new Due();
        due.number("NONE", LoopLaws.NONE, -1);
        due.number("FULL", LoopLaws.FULL, -2);
        due.yes("a public class", Modifier.isPublic(LoopLaws.class.getModifiers()));
        due.yes("a final class", Modifier.isFinal(LoopLaws.class.getModifiers()));
        Set<String> seen = visibleMembers();
        due.yes("the visible members are " + seen + ", that they are those of the document", seen.equals(FACE));
        for (Class<?> inside : LoopLaws.class.getDeclaredClasses()) {
            due.no("a public class inside " + inside, Modifier.isPublic(inside.getModifiers()));
            due.no("a protected class inside " + inside, Modifier.isProtected(inside.getModifiers()));
        }
        due.end();
    }

    private static Set<String> visibleMembers() {
        Set<String> seen = new TreeSet<>();
        for (Field field : LoopLaws.class.getDeclaredFields()) {
            if (!Modifier.isPrivate(field.getModifiers())) {
                seen.add(Modifier.toString(field.getModifiers()) + " " + field.getType() + " " + field.getName());
            }
        }
        for (Constructor<?> maker : LoopLaws.class.getDeclaredConstructors()) {
            seen.add(Modifier.toString(maker.getModifiers()) + " LoopLaws" + types(maker.getParameterTypes()));
        }
        for (Method method : LoopLaws.class.getDeclaredMethods()) {
            if (!Modifier.isPrivate(method.getModifiers()) && !method.isSynthetic()) {
                seen.add(Modifier.toString(method.getModifiers()) + " " + method.getReturnType() + " "
                        + method.getName() + types(method.getParameterTypes()));
            }
        }
        return seen;
    }

    private static String types(Class<?>[] types) {
        return Arrays.toString(types).replace('[', '(').replace(']', ')');
    }
}
