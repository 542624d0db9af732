import java.lang.reflect.Field;
import java.lang.reflect.Method;
import java.lang.reflect.Modifier;
import java.util.Arrays;
import java.util.Set;
import java.util.TreeSet;

/** The public face: the document's members and no other visible one. */
public final class FaceTest {
    private static final Set<String> FACE = new TreeSet<>(Arrays.asList(
            "int NONE", "int FULL",
            "int loop(double, double, double)",
            "boolean limits(int, double, double, double)",
            "boolean safe(int, double)",
            "double tick(int, double, double)",
            "boolean mode(int, int)",
            "boolean hand(int, double)",
            "boolean cascade(int, int)",
            "int split(int, double)",
            "double part(int, int)",
            "boolean band(int, double, double)",
            "int tune(int, int)",
            "double tuned(int, int)",
            "int fault(int)",
            "boolean range(int, double, double)"));

    public static void main(String[] args) {
        Due due = new Due();
        due.number("NONE", LoopLaws.NONE, -1);
        due.number("FULL", LoopLaws.FULL, -2);
        due.yes("public class", Modifier.isPublic(LoopLaws.class.getModifiers()));
        due.yes("final class", Modifier.isFinal(LoopLaws.class.getModifiers()));
        due.number("constructors", LoopLaws.class.getDeclaredConstructors().length, 1);
        due.number("public constructors", LoopLaws.class.getConstructors().length, 1);
        Set<String> seen = visibleMembers();
        due.yes("the visible members are " + seen + ", that they are those of the document", seen.equals(FACE));
        due.end();
    }

    private static Set<String> visibleMembers() {
        Set<String> seen = new TreeSet<>();
        for (Field field : LoopLaws.class.getDeclaredFields()) {
            if (!Modifier.isPrivate(field.getModifiers())) {
                seen.add(field.getType() + " " + field.getName());
            }
        }
        for (Method method : LoopLaws.class.getDeclaredMethods()) {
            if (!Modifier.isPrivate(method.getModifiers()) && !method.isSynthetic()) {
                String types = Arrays.toString(method.getParameterTypes()).replace('[', '(').replace(']', ')');
                seen.add(method.getReturnType() + " " + method.getName() + types);
            }
        }
        return seen;
    }
}
