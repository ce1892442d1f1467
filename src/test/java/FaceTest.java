import java.lang.reflect.Constructor;
import java.lang.reflect.Field;
import java.lang.reflect.Method;
import java.lang.reflect.Modifier;
import java.util.Set;
import java.util.TreeSet;

/** The face: what of the class is to be seen from outside is what the document lists, and nothing else. */
public final class FaceTest {
    private static final Set<String> METHODS = Set.of(
            "int bucket(int,int)", "int pipe(int,int,int)", "int spout(int,int,int,int)", "int turn(int,int)",
            "int frog(int,int,int)", "int weather(int,int)", "int dry(int)", "int told(int,int)", "int count(int)",
            "int tick(int)", "int again()", "long row(int,boolean)", "int round(int)", "int meeting(int,int)",
            "int drip(long,int,int,int)", "int hear(int,long)", "int hush()", "int blamed(int)",
            "int mended(int,int,int,int)");
    private static final Set<String> CONSTANTS =
            Set.of("NONE=-1", "UNKNOWN=-1001", "OUTSIDE=-1002", "NOT=-1003", "FULL=-1004");

    private static int wrong = 0;

    private static void same(String of, Set<String> found, Set<String> due) {
        if (!found.equals(due)) {
            wrong++;
            System.out.println(of + ": found " + new TreeSet<>(found) + ", due " + new TreeSet<>(due));
        }
    }

    private static String head(Method method) {
        StringBuilder text = new StringBuilder(method.getReturnType() + " " + method.getName() + "(");
        for (int i = 0; i < method.getParameterCount(); i++) {
            text.append(i == 0 ? "" : ",").append(method.getParameterTypes()[i]);
        }
        return text.append(")").toString();
    }

    public static void main(String[] args) throws IllegalAccessException {
        Set<String> methods = new TreeSet<>();
        Set<String> hiddenNames = new TreeSet<>();
        for (Method method : TickGarden.class.getDeclaredMethods()) {
            if (Modifier.isPrivate(method.getModifiers())) {
                hiddenNames.add(method.getName());
            } else {
                methods.add((Modifier.isPublic(method.getModifiers()) ? "" : "not public: ") + head(method));
            }
        }
        same("methods", methods, METHODS);
        for (String head : METHODS) {
            String name = head.substring(head.indexOf(' ') + 1, head.indexOf('('));
            same("private methods of a public name", hiddenNames.contains(name) ? Set.of(name) : Set.of(), Set.of());
        }
        Set<String> constants = new TreeSet<>();
        for (Field field : TickGarden.class.getDeclaredFields()) {
            if (!Modifier.isPrivate(field.getModifiers())) {
                constants.add(field.getName() + "=" + (Modifier.isStatic(field.getModifiers()) ? field.getInt(null) : "?"));
            }
        }
        same("constants", constants, CONSTANTS);
        Constructor<?>[] constructors = TickGarden.class.getDeclaredConstructors();
        same("constructors", Set.of(constructors.length + ", " + constructors[0].toString()), Set.of("1, public TickGarden()"));
        same("class", Set.of(Modifier.toString(TickGarden.class.getModifiers())), Set.of("public final"));
        System.out.println(wrong == 0 ? "the face is as due" : wrong + " things of the face are not as due");
        if (wrong != 0) {
            System.exit(1);
        }
    }
}
