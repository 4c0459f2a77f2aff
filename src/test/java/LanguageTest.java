import java.io.IOException;
import java.lang.reflect.Field;
import java.lang.reflect.Method;
import java.lang.reflect.Modifier;
import java.nio.file.Files;
import java.nio.file.Path;
import java.util.ArrayList;
import java.util.HashSet;
import java.util.List;
import java.util.Set;
import java.util.regex.Matcher;
import java.util.regex.Pattern;

/** Rules of LANGUAGE.md that can be seen in the source or in the compiled class; stricter than they are where the program needs less. */
public final class LanguageTest {
    private static final Pattern COMMENT = Pattern.compile("/\\*.*?\\*/|//[^\n]*", Pattern.DOTALL);
    private static final Pattern RULED_OUT = Pattern.compile(
        "\\b(?:import|package|synchronized|assert|try|catch|throw|throws|finally|instanceof|double|float|protected|native|volatile)\\b|->|::|\"");
    private static final Pattern LIBRARY = Pattern.compile("\\b(?!SixBits\\.)[A-Z][a-z]\\w*\\.\\w+");
    private static final Pattern NEW = Pattern.compile("[^\n]*\\bnew\\b[^\n]*");
    private static final Pattern NEW_IN_FIELD = Pattern.compile(" +(\\w+) = new [\\w \\[\\]()*+]+;");
    private static final Pattern METHOD = Pattern.compile("(?m)^( +)[\\w\\[\\] ]+\\([^\n;]*\\) \\{\n(.*?)^\\1\\}", Pattern.DOTALL);
    private static final Set<String> LIBRARY_USED = Set.of("System.arraycopy", "Math.min");
    private static final Set<Class<?>> STATIC_TYPES =
        Set.of(int.class, long.class, boolean.class, char.class, String.class, int[].class, long[].class, char[].class, byte[].class);

    private static final int MOST_CLASSES = 12;
    private static final int MOST_FIELDS = 20;
    private static final int MOST_PARAMETERS = 7;
    private static final int MOST_LINES = 60;
    private static final int LEAST_METHODS_FOUND = 60;

    public static void main(String[] args) throws IOException {
        String source = Files.readString(Path.of("src/main/java/PlainSeal.java"));
        String code = COMMENT.matcher(source).replaceAll("");
        List<Class<?>> types = new ArrayList<>(List.of(PlainSeal.class.getDeclaredClasses()));
        types.add(PlainSeal.class);
        words(code);
        objects(code, types);
        lengths(source);
        Check.sentence("LANGUAGE.md, 11");
        Check.due("classes over the limit", Math.max(types.size(), MOST_CLASSES), MOST_CLASSES);
        for (Class<?> type : types) {
            fields(type);
            methods(type);
        }
        Check.finish();
    }

    private static void words(String code) {
        Check.sentence("LANGUAGE.md, 2, 3, 6");
        Matcher word = RULED_OUT.matcher(code);
        while (word.find()) {
            Check.due("the source", word.group(), "not in it");
        }
        Check.sentence("LANGUAGE.md, 4");
        Matcher used = LIBRARY.matcher(code);
        while (used.find()) {
            Check.due(used.group() + " is known", LIBRARY_USED.contains(used.group()) ? 1 : 0, 1);
        }
    }

    /** A final field can only be set in a constructor: no call makes an object. */
    private static void objects(String code, List<Class<?>> types) {
        Check.sentence("LANGUAGE.md, 12");
        Set<String> finals = new HashSet<>();
        for (Class<?> type : types) {
            for (Field field : type.getDeclaredFields()) {
                if (Modifier.isFinal(field.getModifiers())) {
                    finals.add(field.getName());
                }
            }
        }
        Matcher line = NEW.matcher(code);
        while (line.find()) {
            Matcher set = NEW_IN_FIELD.matcher(line.group());
            Check.due(line.group() + " sets a final field", set.matches() && finals.contains(set.group(1)) ? 1 : 0, 1);
        }
    }

    private static void lengths(String source) {
        Check.sentence("LANGUAGE.md, 11");
        Matcher method = METHOD.matcher(source);
        int found = 0;
        while (method.find()) {
            found++;
            int lines = (int) method.group(2).lines().count() + 2;
            Check.due(method.group().lines().findFirst().orElse("") + " lines", Math.max(lines, MOST_LINES), MOST_LINES);
        }
        Check.due("methods found by their lines", Math.min(found, LEAST_METHODS_FOUND), LEAST_METHODS_FOUND);
    }

    private static void fields(Class<?> type) {
        int own = 0;
        for (Field field : type.getDeclaredFields()) {
            if (!Modifier.isStatic(field.getModifiers())) {
                own++;
                continue;
            }
            Check.sentence("LANGUAGE.md, 5");
            Check.due(field + " is final", Modifier.isFinal(field.getModifiers()) ? 1 : 0, 1);
            Check.due(field + " has a type for constants", STATIC_TYPES.contains(field.getType()) ? 1 : 0, 1);
        }
        Check.sentence("LANGUAGE.md, 11");
        Check.due(type + " fields", Math.max(own, MOST_FIELDS), MOST_FIELDS);
    }

    private static void methods(Class<?> type) {
        Set<String> face = new HashSet<>();
        for (Method method : PlainSeal.class.getDeclaredMethods()) {
            if (Modifier.isPublic(method.getModifiers())) {
                face.add(method.getName());
            }
        }
        for (Method method : type.getDeclaredMethods()) {
            boolean shown = Modifier.isPublic(method.getModifiers());
            Check.sentence("LANGUAGE.md, 1");
            Check.due(method + " bears the name of a call", !shown && face.contains(method.getName()) ? 1 : 0, 0);
            Check.sentence("LANGUAGE.md, 11");
            Check.due(method + " parameters", Math.max(method.getParameterCount(), MOST_PARAMETERS), MOST_PARAMETERS);
        }
    }
}
