import java.lang.reflect.Constructor;
import java.lang.reflect.Field;
import java.lang.reflect.Method;
import java.lang.reflect.Modifier;
import java.util.Arrays;
import java.util.HashSet;
import java.util.List;
import java.util.Set;
import java.util.TreeSet;

/** The public face is the document's, and nothing else can be reached. */
public final class FaceTest {
    private static final String INDEX = "IndexOutOfBoundsException";
    private static final String ARGUMENT = "IllegalArgumentException";
    private static final String STATE = "IllegalStateException";
    private static final List<String> FACE = List.of(
            "int lamp(int,int,int,int,int) " + ARGUMENT + " " + STATE,
            "boolean die(int) " + INDEX,
            "int house(int) " + ARGUMENT,
            "int power(int,int) " + INDEX + " " + ARGUMENT,
            "int cue(int,int,int) " + ARGUMENT + " " + STATE,
            "int level(int,int,int) " + INDEX + " " + ARGUMENT,
            "int follow(int,int,int) " + INDEX + " " + ARGUMENT,
            "int go(int) " + INDEX + " " + STATE,
            "boolean release(int) " + INDEX + " " + STATE,
            "int pass(int) " + ARGUMENT,
            "int levelOf(int) " + INDEX,
            "int levelAnew(int) " + INDEX,
            "int loadOf(int) " + INDEX,
            "int watts(int) " + INDEX,
            "int asks(int,int) " + INDEX,
            "int shines(int,int) " + INDEX,
            "int playing(int,int) " + INDEX + " " + ARGUMENT,
            "int barred()");

    public static void main(String[] args) {
        Check.same("the class is public and final", "public final", Modifier.toString(GelBook.class.getModifiers()));
        methods();
        fields();
        Constructor<?>[] constructors = GelBook.class.getDeclaredConstructors();
        Check.same("one constructor", 1, constructors.length);
        Check.same("a public one", "public GelBook()", constructors[0].toString());
        for (Class<?> inside : GelBook.class.getDeclaredClasses()) {
            Check.same(inside + " is static", true, Modifier.isStatic(inside.getModifiers()));
            Check.same(inside + " is not public", false, Modifier.isPublic(inside.getModifiers()));
        }
        Check.end();
    }

    private static void methods() {
        Set<String> found = new TreeSet<>();
        Set<String> hidden = new HashSet<>();
        for (Method method : GelBook.class.getDeclaredMethods()) {
            if (Modifier.isPrivate(method.getModifiers())) {
                hidden.add(method.getName());
            } else {
                found.add(Modifier.toString(method.getModifiers()) + " " + signature(method));
            }
        }
        Set<String> due = new TreeSet<>();
        for (String one : FACE) {
            due.add("public " + one);
            String name = one.substring(one.indexOf(' ') + 1, one.indexOf('('));
            Check.same("no private method is named " + name, false, hidden.contains(name));
        }
        Check.same("the methods", due, found);
    }

    private static String signature(Method method) {
        StringBuilder text = new StringBuilder();
        text.append(method.getReturnType().getName()).append(' ').append(method.getName()).append('(');
        text.append(String.join(",", Arrays.stream(method.getParameterTypes()).map(Class::getName).toList()));
        text.append(')');
        for (Class<?> thrown : method.getExceptionTypes()) {
            text.append(' ').append(thrown.getSimpleName());
        }
        return text.toString();
    }

    private static void fields() {
        Set<String> found = new TreeSet<>();
        for (Field field : GelBook.class.getDeclaredFields()) {
            if (!Modifier.isPrivate(field.getModifiers())) {
                found.add(Modifier.toString(field.getModifiers()) + " " + field.getType() + " " + field.getName());
            }
        }
        Check.same("the constants", new TreeSet<>(List.of("public static final int NONE",
                "public static final int HIGHEST", "public static final int LATEST")), found);
    }
}
