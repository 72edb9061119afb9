import java.io.IOException;
import java.lang.reflect.Constructor;
import java.lang.reflect.Field;
import java.lang.reflect.Method;
import java.lang.reflect.Modifier;
import java.nio.file.Files;
import java.nio.file.Path;
import java.util.ArrayList;
import java.util.List;
import java.util.Set;
import java.util.TreeSet;
import java.util.regex.Matcher;
import java.util.regex.Pattern;

/** The rules of LANGUAGE.md that can be seen in the class and in its text: narrower than they are, as the class is. */
public final class LanguageTest {
    private static final Path SOURCE = Path.of("src/main/java/GelBook.java");
    private static final Set<String> CALLED = Set.of("Math.max", "Math.min", "Math.abs", "Arrays.fill",
            "Arrays.copyOf", "History.cueOf", "History.tickOf", "History.isRelease");
    private static final Set<String> THROWN = Set.of("IllegalArgumentException", "IllegalStateException",
            "IndexOutOfBoundsException");
    private static final List<String> WORDS = List.of("package", "try", "catch", "finally", "synchronized", "assert",
            "volatile", "native", "strictfp", "transient", "instanceof", "System", "Thread", "Object", "Float",
            "Double", "Long", "Random", "equals", "hashCode", "toString");
    private static final List<String> SIGNS = List.of("->", "::", "static {", "@");
    private static final int MOST_LINES = 60;
    private static final int MOST_PARAMETERS = 7;
    private static final int MOST_FIELDS = 20;
    private static final int MOST_CLASSES = 12;

    public static void main(String[] args) throws IOException {
        String text = Files.readString(SOURCE);
        String code = withoutTexts(text);
        Check.same("rule 3: signs 1 to 127 alone", true, text.chars().allMatch(sign -> sign >= 1 && sign <= 127));
        words(code);
        library(code);
        exceptions(code);
        lengths(text);
        List<Class<?>> classes = new ArrayList<>(List.of(GelBook.class.getDeclaredClasses()));
        Check.same("rule 11: at most twelve classes", true, classes.size() < MOST_CLASSES);
        classes.add(GelBook.class);
        for (Class<?> one : classes) {
            fields(one);
            parameters(one);
        }
        Check.end();
    }

    /** The code alone: what comments and written texts say is free. */
    private static String withoutTexts(String text) {
        return text.replaceAll("(?s)/\\*.*?\\*/", "").replaceAll("//[^\n]*", "").replaceAll("\"[^\"\n]*\"", "\"\"");
    }

    private static void words(String code) {
        for (String word : WORDS) {
            boolean found = Pattern.compile("\\b" + word + "\\b").matcher(code).find();
            Check.same("rules 1 to 13: the word " + word, false, found);
        }
        for (String sign : SIGNS) {
            Check.same("rules 2, 4 and 5: the sign " + sign, false, code.contains(sign));
        }
    }

    private static Set<String> all(String pattern, String code) {
        Set<String> found = new TreeSet<>();
        Matcher matcher = Pattern.compile(pattern).matcher(code);
        while (matcher.find()) {
            found.add(matcher.group(1));
        }
        return found;
    }

    private static void library(String code) {
        Check.same("rule 4: imports", Set.of("java.util.Arrays"), all("import ([\\w.*]+);", code));
        for (String call : all("\\b([A-Z]\\w*\\.\\w+)\\(", code)) {
            Check.same("rule 4: the call " + call, true, CALLED.contains(call));
        }
    }

    private static void exceptions(String code) {
        Set<String> thrown = all("\\bthrow (.*?)\\(\"\"\\);", code);
        for (String one : thrown) {
            Check.same("rule 6: throw " + one, true, one.startsWith("new ") && THROWN.contains(one.substring(4)));
        }
        int throwing = code.split("\\bthrow ", -1).length;
        int written = code.split("\\bthrow new \\w+\\(\"\"\\);", -1).length;
        Check.same("rule 6: each throw is of a new one with a written text", throwing, written);
        Check.same("each exception of the document", THROWN.size(), thrown.size());
    }

    /** A method, or a constructor, ends with the brace that stands as far in as its first line. */
    private static void lengths(String text) {
        String[] lines = text.split("\n");
        for (int i = 0; i < lines.length; i++) {
            boolean begins = lines[i].matches("( {4}| {8})(\\w[\\w\\[\\] ]* )?\\w+\\([^;]*")
                    && !lines[i].matches(" *(if|for|while|switch|return|throw) .*");
            if (begins) {
                String end = lines[i].replaceAll("\\S.*", "") + "}";
                int last = i;
                while (last + 1 < lines.length && !lines[last].equals(end)) {
                    last++;
                }
                Check.same("rule 11: the length of " + lines[i].trim(), true, last - i < MOST_LINES);
            }
        }
    }

    private static void fields(Class<?> one) {
        int own = 0;
        for (Field field : one.getDeclaredFields()) {
            String name = one.getName() + "." + field.getName();
            if (Modifier.isStatic(field.getModifiers())) {
                Check.same("rule 5: is final, " + name, true, Modifier.isFinal(field.getModifiers()));
                Check.same("rule 5: is an int, " + name, int.class, field.getType());
            } else {
                own++;
                Class<?> type = field.getType().isArray() ? field.getType().getComponentType() : field.getType();
                boolean known = type == int.class || type == boolean.class || type.getName().startsWith("GelBook$");
                Check.same("rule 3: the type of " + name, true, known);
            }
        }
        Check.same("rule 11: some twenty fields in " + one.getName(), true, own <= MOST_FIELDS);
    }

    private static void parameters(Class<?> one) {
        for (Method method : one.getDeclaredMethods()) {
            Check.same("rule 11: parameters of " + method, true, method.getParameterCount() <= MOST_PARAMETERS);
            Check.same("rule 2: no lambda, " + method, false, method.isSynthetic());
        }
        for (Constructor<?> constructor : one.getDeclaredConstructors()) {
            Check.same("rule 11: parameters of " + constructor, true,
                    constructor.getParameterCount() <= MOST_PARAMETERS);
        }
    }
}
