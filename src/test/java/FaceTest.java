import java.lang.reflect.Constructor;
import java.lang.reflect.Executable;
import java.lang.reflect.Field;
import java.lang.reflect.Method;
import java.lang.reflect.Modifier;
import java.util.Arrays;
import java.util.TreeSet;

/** The public face, as the document's code block tells it, and what LANGUAGE.md says of the members behind it. */
public final class FaceTest {
    private static final Told TOLD = new Told();
    private static final String[] FACE = {
        "int walker(int, int)",
        "int load(int, int, int)",
        "int piece(int, int)",
        "boolean lame(int, boolean)",
        "boolean change(int)",
        "int feed(int, int, int, int, int)",
        "int text(int)",
        "int pace(int, int, int, int)",
        "int carry(int, int, int, int)",
        "int parts(int, int, int, int)",
        "int whole(int, int, int)",
        "int wont(int, int)",
        "int who(int, int, int)",
        "int pounds(int, int, int)",
        "int ahead(int, int, int, int)",
        "int stages(int, int, int)",
        "int goes(int, int)",
        "int carried(int, int, int)",
        "int mule(int, int, int, int)",
        "boolean plan(int)",
        "boolean march(int)",
        "int ran(int)",
        "int gap(int)",
        "int best(int)",
        "int often(int)",
        "int edge()",
        "int bands(int, int, int)",
        "int kettle(int)",
        "int check(int)",
        "int count(int)",
    };

    public static void main(String[] args) {
        calls();
        constructor();
        constants();
        privateNames();
        inside();
        System.exit(TOLD.end());
    }

    private static boolean isShown(int modifiers) {
        return !Modifier.isPrivate(modifiers);
    }

    private static String types(Executable call) {
        StringBuilder types = new StringBuilder();
        for (Class<?> type : call.getParameterTypes()) {
            types.append(types.length() == 0 ? "" : ", ").append(type.getName());
        }
        return types.toString();
    }

    private static void calls() {
        TreeSet<String> left = new TreeSet<>(Arrays.asList(FACE));
        TOLD.due("calls of the face", left.size(), 30);
        for (Method method : SlowPace.class.getDeclaredMethods()) {
            if (isShown(method.getModifiers())) {
                String call = method.getReturnType().getName() + " " + method.getName() + "(" + types(method) + ")";
                TOLD.due(call + " stands in the document", left.remove(call), true);
                TOLD.due(call + " is public and nothing else", method.getModifiers(), Modifier.PUBLIC);
                TOLD.due(call + " throws", method.getExceptionTypes().length, 0);
            }
        }
        TOLD.due("lacking calls " + left, left.size(), 0);
    }

    private static void constructor() {
        Constructor<?>[] all = SlowPace.class.getDeclaredConstructors();
        TOLD.due("constructors", all.length, 1);
        TOLD.due("what the constructor takes", all[0].getParameterCount(), 0);
        TOLD.due("the constructor is public", all[0].getModifiers(), Modifier.PUBLIC);
        TOLD.due("the class is public and final", SlowPace.class.getModifiers(), Modifier.PUBLIC | Modifier.FINAL);
        TOLD.due("it stands under Object", SlowPace.class.getSuperclass() == Object.class, true);
        TOLD.due("interfaces of it", SlowPace.class.getInterfaces().length, 0);
    }

    private static void constants() {
        TOLD.due("NONE", SlowPace.NONE, -1);
        for (Field field : SlowPace.class.getDeclaredFields()) {
            boolean none = field.getName().equals("NONE") && field.getType() == int.class
                    && field.getModifiers() == (Modifier.PUBLIC | Modifier.STATIC | Modifier.FINAL);
            TOLD.due(field.getName() + " is private, or NONE", none || !isShown(field.getModifiers()), true);
        }
    }

    private static void privateNames() {
        TreeSet<String> names = new TreeSet<>();
        for (String call : FACE) {
            names.add(call.substring(call.indexOf(' ') + 1, call.indexOf('(')));
        }
        privateNames(SlowPace.class, names);
        for (Class<?> inside : SlowPace.class.getDeclaredClasses()) {
            privateNames(inside, names);
        }
    }

    private static void privateNames(Class<?> in, TreeSet<String> names) {
        for (Method method : in.getDeclaredMethods()) {
            boolean same = Modifier.isPrivate(method.getModifiers()) && names.contains(method.getName());
            TOLD.due(in.getName() + "." + method.getName() + " is private and bears a public name", same, false);
        }
    }

    private static void inside() {
        Class<?>[] classes = SlowPace.class.getDeclaredClasses();
        TOLD.due("at most twelve classes", classes.length < 12, true);
        members(SlowPace.class);
        for (Class<?> inside : classes) {
            int modifiers = inside.getModifiers();
            boolean hidden = !Modifier.isPublic(modifiers) && !Modifier.isProtected(modifiers);
            TOLD.due(inside.getName() + " is static", Modifier.isStatic(modifiers), true);
            TOLD.due(inside.getName() + " is hidden", hidden, true);
            members(inside);
        }
    }

    /** No state but an object's own, and few parameters and fields. */
    private static void members(Class<?> in) {
        int fields = 0;
        for (Field field : in.getDeclaredFields()) {
            boolean fixed = Modifier.isStatic(field.getModifiers());
            fields += fixed ? 0 : 1;
            TOLD.due(in.getName() + "." + field.getName() + " changes for all",
                    fixed && !Modifier.isFinal(field.getModifiers()), false);
        }
        TOLD.due(in.getName() + " has at most twenty fields", fields <= 20, true);
        for (Method method : in.getDeclaredMethods()) {
            TOLD.due(in.getName() + "." + method.getName() + " takes at most seven", method.getParameterCount() <= 7,
                    true);
        }
    }
}
