import java.lang.reflect.Constructor;
import java.lang.reflect.Field;
import java.lang.reflect.Method;
import java.lang.reflect.Modifier;
import java.util.Set;
import java.util.TreeSet;

/** The public face is that of the document, and nothing more. */
public final class FaceTest {
    private static final Due DUE = new Due("FaceTest");

    private static final String[] METHODS = {"both 1", "card 5", "cards 1", "cell 5", "cellOf 3",
        "clear 1", "clearText 0", "columns 2", "count 1", "drop 2", "fault 1", "many 0",
        "order 3", "put 4", "read 1", "row 2", "show 1", "tightest 1", "total 2", "type 1",
        "undo 0", "unlike 0", "valueOf 3", "why 2"};

    public static void main(String[] args) {
        constants();
        classAndConstructor();
        methods();
        namesInside();
        DUE.end();
    }

    private static void constants() {
        DUE.part("constants");
        DUE.is("INVALID_ARGUMENT", ExampleDrawers.INVALID_ARGUMENT, -11);
        DUE.is("NOT_POSSIBLE", ExampleDrawers.NOT_POSSIBLE, -12);
        DUE.is("LIMIT_REACHED", ExampleDrawers.LIMIT_REACHED, -13);
        DUE.is("NOT_FOUND", ExampleDrawers.NOT_FOUND, -14);
        int open = 0;
        for (Field field : ExampleDrawers.class.getDeclaredFields()) {
            int modifiers = field.getModifiers();
            boolean constant = Modifier.isPublic(modifiers) && Modifier.isStatic(modifiers)
                    && Modifier.isFinal(modifiers) && field.getType() == int.class;
            open += constant ? 1 : 0;
            DUE.holds(field.getName() + " is private or a constant",
                    constant || Modifier.isPrivate(modifiers));
        }
        DUE.is("public constants", open, 4);
    }

    private static void classAndConstructor() {
        DUE.part("class");
        int modifiers = ExampleDrawers.class.getModifiers();
        DUE.holds("public and final", Modifier.isPublic(modifiers) && Modifier.isFinal(modifiers));
        Constructor<?>[] constructors = ExampleDrawers.class.getDeclaredConstructors();
        DUE.is("constructors", constructors.length, 1);
        DUE.is("its parameters", constructors[0].getParameterCount(), 0);
        DUE.holds("it is public", Modifier.isPublic(constructors[0].getModifiers()));
    }

    private static void methods() {
        DUE.part("methods");
        Set<String> due = new TreeSet<>(Set.of(METHODS));
        Set<String> found = new TreeSet<>();
        for (Method method : ExampleDrawers.class.getDeclaredMethods()) {
            int modifiers = method.getModifiers();
            if (Modifier.isPrivate(modifiers)) {
                continue;
            }
            found.add(method.getName() + " " + method.getParameterCount());
            DUE.holds(method.getName() + " is public and of the object",
                    Modifier.isPublic(modifiers) && !Modifier.isStatic(modifiers));
            DUE.holds(method.getName() + " answers an int", method.getReturnType() == int.class);
            for (Class<?> type : method.getParameterTypes()) {
                DUE.holds(method.getName() + " takes ints", type == int.class);
            }
        }
        DUE.holds("the methods are " + due + ", found " + found, due.equals(found));
    }

    private static void namesInside() {
        DUE.part("names inside");
        Set<String> open = new TreeSet<>();
        for (String method : METHODS) {
            open.add(method.substring(0, method.indexOf(' ')));
        }
        Class<?>[] inside = ExampleDrawers.class.getDeclaredClasses();
        DUE.holds("at most twelve classes", inside.length <= 12);
        for (Class<?> each : inside) {
            DUE.holds(each.getName() + " is static", Modifier.isStatic(each.getModifiers()));
            DUE.holds(each.getName() + " is not public", !Modifier.isPublic(each.getModifiers()));
            DUE.holds(each.getName() + " has few fields", each.getDeclaredFields().length <= 20);
            for (Method method : each.getDeclaredMethods()) {
                DUE.holds(method.getName() + " is no name of the face",
                        !open.contains(method.getName()));
            }
        }
        for (Method method : ExampleDrawers.class.getDeclaredMethods()) {
            DUE.holds(method.getName() + " is no private one with a name of the face",
                    !Modifier.isPrivate(method.getModifiers())
                            || !open.contains(method.getName()));
        }
    }
}
