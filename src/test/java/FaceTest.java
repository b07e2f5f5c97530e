import java.lang.reflect.Constructor;
import java.lang.reflect.Field;
import java.lang.reflect.Method;
import java.lang.reflect.Modifier;
import java.util.Arrays;
import java.util.Set;
import java.util.TreeSet;

/** The public face is the document's, and nothing else of the class can be reached. */
public final class FaceTest {
    private static final String[] METHODS = {
        "card 6", "weather 4", "fly 2", "waive 1", "reopen 1", "pass 1", "set 2", "why 2", "cardOf 2", "flightOf 2",
        "weatherOf 2", "cards 1", "first 1", "planned 2", "plan 1", "worst 1", "count 1", "undo 0", "type 1",
        "clearText 0", "fault 1", "play 0",
    };
    private static final String[] CONSTANTS = {
        "INVALID_ARGUMENT -1000001", "NOT_POSSIBLE -1000002", "LIMIT_REACHED -1000003", "NOT_FOUND -1000004",
    };

    private static int wrong = 0;

    public static void main(String[] args) throws IllegalAccessException {
        due("the class is public and final",
                Modifier.isPublic(SortieCards.class.getModifiers()) && Modifier.isFinal(SortieCards.class.getModifiers()));
        checkMethods();
        checkConstants();
        checkConstructors();
        checkClassesInside();
        System.out.println(wrong == 0 ? "face: as due" : "face: " + wrong + " wrong");
        if (wrong != 0) {
            System.exit(1);
        }
    }

    private static void due(String what, boolean holds) {
        if (!holds) {
            wrong++;
            System.out.println("does not hold: " + what);
        }
    }

    private static void checkMethods() {
        Set<String> found = new TreeSet<>();
        Set<String> names = new TreeSet<>();
        for (Method method : SortieCards.class.getDeclaredMethods()) {
            if (method.isSynthetic()) {
                continue;
            }
            if (Modifier.isPrivate(method.getModifiers())) {
                continue;
            }
            names.add(method.getName());
            found.add(method.getName() + " " + method.getParameterCount());
            due(method + " is of int", method.getReturnType() == int.class && Modifier.isPublic(method.getModifiers())
                    && Arrays.stream(method.getParameterTypes()).allMatch(type -> type == int.class));
        }
        due("the methods: " + found, found.equals(new TreeSet<>(Arrays.asList(METHODS))));
        for (Class<?> inside : allClasses()) {
            for (Method method : inside.getDeclaredMethods()) {
                boolean ofTheFace = inside == SortieCards.class && Modifier.isPublic(method.getModifiers());
                due(method + " has a name of its own", ofTheFace || !names.contains(method.getName()));
                due(method + " takes few parameters", method.getParameterCount() <= 7);
            }
        }
    }

    private static void checkConstants() throws IllegalAccessException {
        Set<String> found = new TreeSet<>();
        for (Field field : SortieCards.class.getDeclaredFields()) {
            if (!Modifier.isPrivate(field.getModifiers()) && !field.isSynthetic()) {
                due(field + " is a constant", Modifier.isPublic(field.getModifiers())
                        && Modifier.isStatic(field.getModifiers()) && Modifier.isFinal(field.getModifiers()));
                found.add(field.getName() + " " + field.getInt(null));
            }
        }
        due("the constants: " + found, found.equals(new TreeSet<>(Arrays.asList(CONSTANTS))));
    }

    private static void checkConstructors() {
        Constructor<?>[] constructors = SortieCards.class.getDeclaredConstructors();
        due("one constructor without parameters", constructors.length == 1
                && constructors[0].getParameterCount() == 0 && Modifier.isPublic(constructors[0].getModifiers()));
    }

    private static void checkClassesInside() {
        for (Class<?> inside : allClasses()) {
            due(inside + " is static", inside == SortieCards.class || Modifier.isStatic(inside.getModifiers()));
            for (Field field : inside.getDeclaredFields()) {
                due(field + " is final if it is static",
                        !Modifier.isStatic(field.getModifiers()) || Modifier.isFinal(field.getModifiers()));
            }
        }
    }

    private static Class<?>[] allClasses() {
        Class<?>[] inside = SortieCards.class.getDeclaredClasses();
        Class<?>[] all = Arrays.copyOf(inside, inside.length + 1);
        all[inside.length] = SortieCards.class;
        return all;
    }
}
