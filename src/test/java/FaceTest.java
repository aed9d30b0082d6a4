import java.lang.reflect.Constructor;
import java.lang.reflect.Field;
import java.lang.reflect.Method;
import java.lang.reflect.Modifier;
import java.util.Arrays;
import java.util.TreeSet;

/** The public face of the document, and what LANGUAGE.md asks of the members behind it. */
public final class FaceTest {
    private static final Checks CHECKS = new Checks();
    private static final String BAD_ARGUMENT = "java.lang.IllegalArgumentException";
    private static final String BAD_STATE = "java.lang.IllegalStateException";
    private static final int MOST_PARAMETERS = 7;
    private static final int MOST_FIELDS = 20;

    public static void main(String[] args) {
        theClass();
        constructors();
        methods();
        constants();
        namesOfPrivateMethods();
        classesInside();
        sizesAndStaticState(TickLines.class);
        CHECKS.end();
    }

    private static void theClass() {
        CHECKS.words("public final class TickLines");
        int is = TickLines.class.getModifiers();
        CHECKS.yes("final", Modifier.isFinal(is));
        CHECKS.yes("public", Modifier.isPublic(is));
        CHECKS.text("the package", TickLines.class.getPackageName(), "");
        CHECKS.yes("it extends nothing", TickLines.class.getSuperclass() == Object.class);
        CHECKS.same("interfaces", TickLines.class.getInterfaces().length, 0);
    }

    private static void constructors() {
        CHECKS.words("public TickLines();");
        Constructor<?>[] all = TickLines.class.getDeclaredConstructors();
        CHECKS.same("constructors", all.length, 1);
        CHECKS.text("the constructor", all[0].toString(), "public TickLines()");
    }

    private static void methods() {
        CHECKS.words("The public face");
        TreeSet<String> due = new TreeSet<>(Arrays.asList(
                "public void TickLines.write(int,int) throws " + BAD_ARGUMENT + "," + BAD_STATE,
                "public int TickLines.read(int) throws " + BAD_ARGUMENT + "," + BAD_STATE,
                "public boolean TickLines.line(int,int,boolean)",
                "public boolean TickLines.gate(int,boolean)",
                "public int TickLines.tick(int) throws " + BAD_ARGUMENT,
                "public int TickLines.acknowledge() throws " + BAD_STATE,
                "public int TickLines.chosen(int)",
                "public int TickLines.about(int,int)",
                "public int TickLines.counter(int,int)"));
        TreeSet<String> got = new TreeSet<>();
        for (Method m : TickLines.class.getDeclaredMethods()) {
            if (!Modifier.isPrivate(m.getModifiers())) {
                got.add(m.toString());
            }
        }
        CHECKS.text("the methods", got.toString(), due.toString());
    }

    private static void constants() {
        CHECKS.words("public static final int NONE = -1;");
        TreeSet<String> got = new TreeSet<>();
        for (Field f : TickLines.class.getDeclaredFields()) {
            if (!Modifier.isPrivate(f.getModifiers())) {
                got.add(f.toString());
            }
        }
        CHECKS.text("the constants", got.toString(), "[public static final int TickLines.NONE]");
        CHECKS.same("NONE", TickLines.NONE, -1);
    }

    private static void namesOfPrivateMethods() {
        CHECKS.words("No private method bears the name of a public one");
        TreeSet<String> names = new TreeSet<>();
        for (Method m : TickLines.class.getMethods()) {
            names.add(m.getName());
        }
        for (Method m : TickLines.class.getDeclaredMethods()) {
            CHECKS.no(m.toString(), Modifier.isPrivate(m.getModifiers()) && names.contains(m.getName()));
        }
    }

    private static void classesInside() {
        CHECKS.words("the classes inside it, which are private or package-visible and static");
        for (Class<?> c : TickLines.class.getDeclaredClasses()) {
            int is = c.getModifiers();
            CHECKS.yes(c + " is static", Modifier.isStatic(is));
            CHECKS.no(c + " is public", Modifier.isPublic(is) || Modifier.isProtected(is));
            sizesAndStaticState(c);
        }
    }

    private static void sizesAndStaticState(Class<?> c) {
        int fields = 0;
        CHECKS.words("Static fields are final");
        for (Field f : c.getDeclaredFields()) {
            int is = f.getModifiers();
            CHECKS.yes(f + " is final", Modifier.isFinal(is) || !Modifier.isStatic(is));
            fields += Modifier.isStatic(is) ? 0 : 1;
        }
        CHECKS.words("a class some twenty fields beside its constants");
        CHECKS.yes(c + " has " + fields, fields <= MOST_FIELDS);
        CHECKS.words("A method takes at most seven parameters");
        for (Method m : c.getDeclaredMethods()) {
            CHECKS.yes(m.toString(), m.getParameterCount() <= MOST_PARAMETERS);
        }
    }
}
