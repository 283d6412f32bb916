import java.lang.reflect.Constructor;
import java.lang.reflect.Field;
import java.lang.reflect.Method;
import java.lang.reflect.Modifier;
import java.util.Arrays;
import java.util.Map;
import java.util.Set;
import java.util.TreeMap;
import java.util.TreeSet;

/** The public face: the constants, the constructor and the methods of the document, and no others. */
public final class FaceTest {
    private static final Map<String, Integer> METHODS = new TreeMap<>();

    static {
        String[] told = {"metal 2", "part 4", "cut 2", "bounds 4", "contact 2", "heat 3", "outside 1", "warm 2",
            "opening 2", "set 2", "tick 1", "stripOf 2", "partOf 3", "roomOf 2", "count 1", "bend 2", "tripsAt 2",
            "loop 1", "stack 3", "undo 0", "type 1", "clearText 0", "fault 1", "read 1"};
        for (String t : told) {
            METHODS.put(t.substring(0, t.indexOf(' ')), t.charAt(t.length() - 1) - '0');
        }
    }

    public static void main(String[] args) {
        Due.is("INVALID_ARGUMENT", SnapStacks.INVALID_ARGUMENT, -10000001);
        Due.is("NOT_POSSIBLE", SnapStacks.NOT_POSSIBLE, -10000002);
        Due.is("LIMIT_REACHED", SnapStacks.LIMIT_REACHED, -10000003);
        Due.is("NOT_FOUND", SnapStacks.NOT_FOUND, -10000004);
        Due.is("the class's modifiers", SnapStacks.class.getModifiers(), Modifier.PUBLIC | Modifier.FINAL);
        constructors();
        methods();
        fields();
        classesInside();
        Due.end();
    }

    private static void constructors() {
        Constructor<?>[] all = SnapStacks.class.getDeclaredConstructors();
        Due.is("constructors", all.length, 1);
        Due.is("the constructor's modifiers", all[0].getModifiers(), Modifier.PUBLIC);
        Due.is("the constructor's parameters", all[0].getParameterCount(), 0);
    }

    private static void methods() {
        Set<String> seen = new TreeSet<>();
        for (Method method : SnapStacks.class.getDeclaredMethods()) {
            Integer parameters = METHODS.get(method.getName());
            if (parameters == null) {
                Due.is(method + " is private", method.getModifiers() & ~Modifier.STATIC, Modifier.PRIVATE);
            } else {
                seen.add(method.getName());
                Due.is(method + ": modifiers", method.getModifiers(), Modifier.PUBLIC);
                Due.is(method + ": parameters", method.getParameterCount(), parameters);
                Due.holds(method + ": all int", method.getReturnType() == int.class
                        && Arrays.stream(method.getParameterTypes()).allMatch(t -> t == int.class));
            }
        }
        Due.holds("every method is there: " + seen, seen.equals(METHODS.keySet()));
    }

    private static void fields() {
        int open = 0;
        for (Field field : SnapStacks.class.getDeclaredFields()) {
            if (!Modifier.isPrivate(field.getModifiers())) {
                open++;
                Due.is(field + ": modifiers", field.getModifiers(), Modifier.PUBLIC | Modifier.STATIC | Modifier.FINAL);
            }
            Due.holds(field + ": static is final", staticIsFinal(field));
        }
        Due.is("the constants", open, 4);
    }

    private static boolean staticIsFinal(Field field) {
        return !Modifier.isStatic(field.getModifiers()) || Modifier.isFinal(field.getModifiers());
    }

    private static void classesInside() {
        for (Class<?> inside : SnapStacks.class.getDeclaredClasses()) {
            Due.holds(inside + " is static", Modifier.isStatic(inside.getModifiers()));
            Due.holds(inside + " is not public", (inside.getModifiers() & (Modifier.PUBLIC | Modifier.PROTECTED)) == 0);
            for (Method method : inside.getDeclaredMethods()) {
                Due.holds(method + " has no name of the face", !METHODS.containsKey(method.getName()));
            }
            for (Field field : inside.getDeclaredFields()) {
                Due.holds(field + ": static is final", staticIsFinal(field));
            }
        }
    }
}
