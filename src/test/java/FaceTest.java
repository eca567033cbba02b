import java.lang.reflect.Constructor;
import java.lang.reflect.Field;
import java.lang.reflect.Method;
import java.lang.reflect.Modifier;
import java.util.Arrays;
import java.util.List;
import java.util.TreeSet;

/** The public face is the document's, and nothing else of the class is visible. */
public final class FaceTest {
    private static final List<String> METHODS = List.of(
        "int type(long,int)", "int clear()", "int clauses()", "int proof()", "int wrong()", "int end()",
        "int line(int,int)", "int side(int)", "int holds(int,int)", "int worlds(int)",
        "int says(int,int,int)", "long saying(int,int)", "int between(int)", "int looks(int)",
        "int compare(int,int)", "int bounds(int)", "int fewest(int)", "int tell(int,int)",
        "int copy(int,int,int)", "int check()", "int used()", "int needed(int)", "int labour(int,int)",
        "int count(int)", "long trace()");
    private static final List<String> CONSTANTS = List.of("BAD=-1", "STATE=-2", "FULL=-3", "NONE=-9");

    private static int wrong = 0;

    public static void main(String[] args) throws Exception {
        same("methods", new TreeSet<>(METHODS), visibleMethods());
        same("constants", new TreeSet<>(CONSTANTS), visibleConstants());
        Constructor<?>[] made = SharedSense.class.getDeclaredConstructors();
        same("constructors", "1 public, 0 parameters",
            made.length + (Modifier.isPublic(made[0].getModifiers()) ? " public, " : " hidden, ")
            + made[0].getParameterCount() + " parameters");
        same("class", "public final", Modifier.toString(SharedSense.class.getModifiers()));
        if (wrong != 0) {
            System.exit(1);
        }
    }

    private static TreeSet<String> visibleMethods() {
        TreeSet<String> found = new TreeSet<>();
        for (Method method : SharedSense.class.getDeclaredMethods()) {
            if (!Modifier.isPrivate(method.getModifiers()) && !method.isSynthetic()) {
                String parameters = Arrays.toString(method.getParameterTypes()).replaceAll("[\\[\\] ]", "");
                found.add(method.getReturnType() + " " + method.getName() + "(" + parameters + ")");
            }
        }
        return found;
    }

    private static TreeSet<String> visibleConstants() throws Exception {
        TreeSet<String> found = new TreeSet<>();
        for (Field field : SharedSense.class.getDeclaredFields()) {
            if (!Modifier.isPrivate(field.getModifiers())) {
                found.add(field.getName() + "=" + field.getInt(null));
            }
        }
        return found;
    }

    private static void same(String what, Object want, Object got) {
        if (!want.equals(got)) {
            wrong++;
            System.out.println(what + ": " + got + ", due is " + want);
        }
    }
}
