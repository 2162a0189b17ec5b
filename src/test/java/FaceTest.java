import java.io.IOException;
import java.lang.reflect.Constructor;
import java.lang.reflect.Field;
import java.lang.reflect.Method;
import java.lang.reflect.Modifier;
import java.nio.file.Files;
import java.nio.file.Path;
import java.util.Arrays;
import java.util.Set;
import java.util.TreeSet;

/** The public face, member by member, and rules of LANGUAGE.md that can be read off the class and its source. */
public final class FaceTest {
    private static final String INDEX = "IndexOutOfBoundsException";
    private static final String ARGUMENT = "IllegalArgumentException";
    private static final String STATE = "IllegalStateException";

    private static final String[] FACE = {
        "int adjust(int) " + INDEX + " " + STATE,
        "int addLeg(int, int, int) " + INDEX + " " + ARGUMENT + " " + STATE,
        "int angleFor(int, int, int) " + INDEX + " " + ARGUMENT,
        "int apart(int, int) " + INDEX,
        "int begin(int) " + INDEX + " " + STATE,
        "long checksum()",
        "int clearText()",
        "int close(int, int, int) " + INDEX + " " + ARGUMENT + " " + STATE,
        "int dropLeg(int) " + INDEX + " " + STATE,
        "int fault()",
        "int hang(int, int) " + ARGUMENT + " " + STATE,
        "int info(int) " + ARGUMENT,
        "int join(int, int, int, int, int, int) " + INDEX + " " + ARGUMENT + " " + STATE,
        "int joinOf(int, int) " + INDEX + " " + ARGUMENT,
        "int leg(int, int, int) " + INDEX + " " + ARGUMENT,
        "int measure(int, int) " + INDEX + " " + ARGUMENT,
        "boolean meets(int, int) " + INDEX,
        "int reachBy(int, int, int, int) " + INDEX + " " + ARGUMENT,
        "int run() " + ARGUMENT,
        "int set(int, int) " + ARGUMENT,
        "int sine(int) " + ARGUMENT,
        "int still(int) " + INDEX,
        "int suspect(int) " + INDEX,
        "int swing(int, int) " + INDEX + " " + ARGUMENT + " " + STATE,
        "int traverse(int, int) " + INDEX + " " + ARGUMENT,
        "int trouble(int, int) " + INDEX,
        "int type(int) " + ARGUMENT + " " + STATE,
        "int undo() " + STATE,
        "int wire(int, int) " + INDEX + " " + ARGUMENT,
    };

    private static final String[] FORBIDDEN = {
        "import ", "package ", "->", "::", "finally", "synchronized", "assert ", "Exact", "MAX_VALUE",
        "MIN_VALUE", "Math.sqrt", "System.out", "Random", "static {",
    };

    public static void main(String[] args) throws IOException {
        methods();
        otherMembers();
        privateNames();
        nestedClasses();
        source();
        Check.end("FaceTest");
    }

    private static String told(Method method) {
        StringBuilder text = new StringBuilder(method.getReturnType().getSimpleName());
        text.append(' ').append(method.getName()).append('(');
        for (int i = 0; i < method.getParameterCount(); i++) {
            text.append(i == 0 ? "" : ", ").append(method.getParameterTypes()[i].getSimpleName());
        }
        text.append(')');
        for (Class<?> exception : method.getExceptionTypes()) {
            text.append(' ').append(exception.getSimpleName());
        }
        return text.toString();
    }

    private static void methods() {
        Check.sentence("The public face: its methods, with their parameters and exceptions");
        Set<String> told = new TreeSet<>();
        for (Method method : ShaftPlumb.class.getDeclaredMethods()) {
            if (!Modifier.isPrivate(method.getModifiers())) {
                Check.due(method + " is public", Modifier.isPublic(method.getModifiers()), true);
                told.add(told(method));
            }
        }
        Check.dueText("the methods", told.toString(), new TreeSet<>(Arrays.asList(FACE)).toString());
    }

    private static void otherMembers() {
        Check.sentence("The public face: nothing else is public, the class is final, one constructor");
        int fields = 0;
        for (Field field : ShaftPlumb.class.getDeclaredFields()) {
            fields += Modifier.isPrivate(field.getModifiers()) ? 0 : 1;
            boolean isFinal = Modifier.isFinal(field.getModifiers());
            Check.due(field + " is final, if it is static", isFinal || !Modifier.isStatic(field.getModifiers()), true);
        }
        Check.due("the fields that are not private: NONE", fields, 1);
        Constructor<?>[] constructors = ShaftPlumb.class.getDeclaredConstructors();
        Check.due("constructors", constructors.length, 1);
        Check.due("parameters of the constructor", constructors[0].getParameterCount(), 0);
        Check.due("it is public", Modifier.isPublic(constructors[0].getModifiers()), true);
        Check.due("the class is public and final", ShaftPlumb.class.getModifiers(), Modifier.PUBLIC | Modifier.FINAL);
    }

    private static void privateNames() {
        Set<String> names = new TreeSet<>();
        for (Method method : ShaftPlumb.class.getDeclaredMethods()) {
            if (Modifier.isPublic(method.getModifiers())) {
                names.add(method.getName());
            }
        }
        for (Method method : ShaftPlumb.class.getDeclaredMethods()) {
            boolean isPrivate = Modifier.isPrivate(method.getModifiers());
            Check.due(method + " bears a public name", isPrivate && names.contains(method.getName()), false);
        }
    }

    private static void nestedClasses() {
        Class<?>[] nested = ShaftPlumb.class.getDeclaredClasses();
        Check.due("there are at most eleven nested classes", nested.length <= 11, true);
        for (Class<?> each : nested) {
            int modifiers = each.getModifiers();
            Check.due(each + " is private", Modifier.isPrivate(modifiers), true);
            Check.due(each + " is static", Modifier.isStatic(modifiers), true);
            int fields = 0;
            for (Field field : each.getDeclaredFields()) {
                fields += Modifier.isStatic(field.getModifiers()) ? 0 : 1;
            }
            Check.due(each + " has at most twenty fields", fields <= 20, true);
        }
    }

    /** Looks at the source without its comments. */
    private static void source() throws IOException {
        String text = Files.readString(Path.of("src/main/java/ShaftPlumb.java"));
        String code = text.replaceAll("(?s)/\\*.*?\\*/", "").replaceAll("//.*", "");
        for (String word : FORBIDDEN) {
            Check.due("the source has \"" + word + "\"", code.contains(word), false);
        }
        boolean plain = true;
        for (int i = 0; i < text.length(); i++) {
            plain &= text.charAt(i) < 127;
        }
        Check.due("the source has plain characters alone", plain, true);
    }
}
