import java.lang.reflect.Constructor;
import java.lang.reflect.Field;
import java.lang.reflect.Method;
import java.lang.reflect.Modifier;
import java.util.ArrayList;
import java.util.Arrays;
import java.util.List;
import java.util.TreeSet;

/** The public face is the document's, and nothing else can be seen from outside. */
public final class FaceTest {
    private static final String[] DUE = {
        "apply() IllegalArgumentException UnsupportedOperationException IllegalStateException",
        "body(int int) IllegalArgumentException NoSuchElementException",
        "frame(int int int) IllegalArgumentException NoSuchElementException",
        "function(int) IllegalArgumentException IllegalStateException",
        "look(int int) IllegalArgumentException",
        "name(int int) IllegalArgumentException",
        "operation(int boolean int int) IllegalArgumentException IllegalStateException",
        "patches()",
        "step(int int) IllegalArgumentException",
        "target()",
        "task(int) IllegalArgumentException IllegalStateException",
        "turn() IllegalStateException",
    };

    private static final Check CHECK = new Check();

    public static void main(String[] args) {
        CHECK.holds("public and final", Modifier.isPublic(PatchDesk.class.getModifiers())
                && Modifier.isFinal(PatchDesk.class.getModifiers()));
        constructor();
        methods();
        fields();
        classesInside();
        CHECK.end("FaceTest");
    }

    private static void constructor() {
        Constructor<?>[] all = PatchDesk.class.getDeclaredConstructors();
        CHECK.is("constructors", all.length, 1);
        CHECK.is("its parameters", all[0].getParameterCount(), 0);
        CHECK.holds("public constructor", Modifier.isPublic(all[0].getModifiers()));
    }

    private static void methods() {
        TreeSet<String> face = new TreeSet<>();
        TreeSet<String> names = new TreeSet<>();
        List<Method> hidden = new ArrayList<>();
        for (Method method : PatchDesk.class.getDeclaredMethods()) {
            if (Modifier.isPrivate(method.getModifiers())) {
                hidden.add(method);
            } else {
                face.add(describe(method));
                names.add(method.getName());
                CHECK.holds(method + " public, of the object, int", method.getReturnType() == int.class
                        && Modifier.isPublic(method.getModifiers()) && !Modifier.isStatic(method.getModifiers()));
            }
        }
        CHECK.holds("the face is the document's: " + face, face.equals(new TreeSet<>(Arrays.asList(DUE))));
        for (Class<?> inside : PatchDesk.class.getDeclaredClasses()) {
            hidden.addAll(Arrays.asList(inside.getDeclaredMethods()));
        }
        for (Method method : hidden) {
            CHECK.holds(method + " has a name of its own", !names.contains(method.getName()));
        }
    }

    private static String describe(Method method) {
        StringBuilder text = new StringBuilder(method.getName()).append('(');
        String gap = "";
        for (Class<?> type : method.getParameterTypes()) {
            text.append(gap).append(type.getSimpleName());
            gap = " ";
        }
        text.append(')');
        for (Class<?> type : method.getExceptionTypes()) {
            text.append(' ').append(type.getSimpleName());
        }
        return text.toString();
    }

    private static void fields() {
        for (Field field : PatchDesk.class.getDeclaredFields()) {
            int modifiers = field.getModifiers();
            CHECK.holds(field + " private", Modifier.isPrivate(modifiers));
            CHECK.holds(field + " final where static", !Modifier.isStatic(modifiers) || Modifier.isFinal(modifiers));
        }
    }

    private static void classesInside() {
        for (Class<?> inside : PatchDesk.class.getDeclaredClasses()) {
            int modifiers = inside.getModifiers();
            CHECK.holds(inside + " static and hidden", Modifier.isStatic(modifiers)
                    && !Modifier.isPublic(modifiers) && !Modifier.isProtected(modifiers));
        }
    }
}
