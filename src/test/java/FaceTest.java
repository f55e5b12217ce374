import java.lang.reflect.Constructor;
import java.lang.reflect.Field;
import java.lang.reflect.Method;
import java.lang.reflect.Modifier;
import java.util.Arrays;
import java.util.HashSet;
import java.util.Set;
import java.util.TreeSet;

/** The public face is the document's, and nothing else can be seen from outside. */
public final class FaceTest {
    private static final String[] FACE = {
        "feed(int, int, int, int, int)", "tell(int)", "fault(int)", "trade(int, int, int, int)",
        "drop(int)", "keep(int)", "mode(int)", "cap(int, int, int)", "takeRing(int)", "press(int)",
        "undo()", "tradeOf(int, int)", "flow(int, int, int)", "net(int, int, boolean)",
        "side(int, int, int)", "total(int, int)", "bound(int, int, int)", "ring(int, int)",
        "load(int)", "cleared(int, int)", "rounds(int, int)", "chain(int, int)", "least(int)",
        "pressed(int, int, int)", "couples(int)", "span(int, int, int, int)", "gain(int, int, int)",
        "without(int, int)", "relief(int, int)", "through(int, int, int)", "relieved(int)", "all()",
        "enough(int, int, int)", "fewest(int, int)", "even(int, int)", "line(int, int)", "count(int)",
    };

    public static void main(String[] args) {
        Checks checks = new Checks("FaceTest");
        Set<String> seen = new TreeSet<>();
        Set<String> publicNames = new HashSet<>();
        for (Method method : SwapPress.class.getDeclaredMethods()) {
            if (!Modifier.isPrivate(method.getModifiers())) {
                String types = Arrays.toString(method.getParameterTypes());
                seen.add(method.getName() + "(" + types.substring(1, types.length() - 1) + ")");
                publicNames.add(method.getName());
                checks.due(method.getName() + " is public", method.getModifiers(), Modifier.PUBLIC);
                checks.due(method.getName() + " answers", method.getReturnType().getName(), "int");
            }
        }
        checks.due("the methods", seen.toString(), new TreeSet<>(Arrays.asList(FACE)).toString());
        for (Method method : SwapPress.class.getDeclaredMethods()) {
            if (Modifier.isPrivate(method.getModifiers())) {
                checks.due("a public name of " + method.getName(),
                    publicNames.contains(method.getName()) ? 1 : 0, 0);
            }
        }
        for (Field field : SwapPress.class.getDeclaredFields()) {
            boolean free = Modifier.isPrivate(field.getModifiers());
            checks.due("a field seen, " + field.getName(), free ? 1 : 0, field.getName().equals("NONE") ? 0 : 1);
        }
        Constructor<?>[] makers = SwapPress.class.getDeclaredConstructors();
        checks.due("constructors", makers.length, 1);
        checks.due("its parameters", makers[0].getParameterCount(), 0);
        checks.due("it is public", makers[0].getModifiers(), Modifier.PUBLIC);
        checks.due("the class", SwapPress.class.getModifiers(), Modifier.PUBLIC | Modifier.FINAL);
        checks.due("NONE", SwapPress.NONE, -1);
        for (Class<?> inside : SwapPress.class.getDeclaredClasses()) {
            checks.due(inside.getName() + " is static", Modifier.isStatic(inside.getModifiers()) ? 1 : 0, 1);
            checks.due(inside.getName() + " is seen", Modifier.isPublic(inside.getModifiers()) ? 1 : 0, 0);
        }
        checks.end();
    }
}
