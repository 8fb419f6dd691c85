import java.lang.reflect.Constructor;
import java.lang.reflect.Field;
import java.lang.reflect.Method;
import java.lang.reflect.Modifier;
import java.util.Arrays;
import java.util.Set;
import java.util.TreeSet;

/** The class shows the document's face and nothing else. */
public final class FaceTest {
    private static final Set<String> FACE = new TreeSet<>(Arrays.asList(
        "int choose[int]", "int step[int, int, int, int]", "int clear[]", "int run[]",
        "double dial[int]", "int size[int]", "double value[int, int]",
        "boolean isFitted[int, int]", "double log[int]", "boolean isMinus[int]",
        "int count[int]", "int fault[int]"));

    public static void main(String[] args) {
        Check check = new Check("face");
        Class<?> type = GaugeBench.class;
        check.same("public and final", Modifier.PUBLIC | Modifier.FINAL, type.getModifiers());
        Set<String> seen = new TreeSet<>();
        Set<String> names = new TreeSet<>();
        for (Method method : type.getDeclaredMethods()) {
            if (!Modifier.isPrivate(method.getModifiers())) {
                names.add(method.getName());
                seen.add(method.getReturnType() + " " + method.getName()
                    + Arrays.toString(method.getParameterTypes()));
            }
        }
        check.same("methods that can be seen", FACE.toString(), seen.toString());
        for (Field field : type.getDeclaredFields()) {
            check.same("private " + field.getName(), true, Modifier.isPrivate(field.getModifiers()));
        }
        Constructor<?>[] constructors = type.getDeclaredConstructors();
        check.same("constructors", 1, constructors.length);
        check.same("parameters", 0, constructors[0].getParameterCount());
        check.same("public constructor", true, Modifier.isPublic(constructors[0].getModifiers()));
        for (Class<?> inside : type.getDeclaredClasses()) {
            check.same(inside + " is hidden", false,
                Modifier.isPublic(inside.getModifiers()) || Modifier.isProtected(inside.getModifiers()));
            for (Method method : inside.getDeclaredMethods()) {
                check.same(method + " has a name of its own", false, names.contains(method.getName()));
            }
        }
        check.end();
    }
}
