import java.io.IOException;
import java.lang.reflect.Method;
import java.nio.file.Files;
import java.nio.file.Path;
import java.util.ArrayList;
import java.util.LinkedHashMap;
import java.util.List;
import java.util.Map;
import java.util.TreeSet;
import java.util.regex.Matcher;
import java.util.regex.Pattern;

/** What README.md says is so: each answer beside an example's call, and each row of its table of calls. */
public final class ReadmeTest {
    private static final Pattern EXAMPLE = Pattern.compile("```java\n(.*?)```", Pattern.DOTALL);
    private static final Pattern CALL = Pattern.compile("seal\\.(\\w+)\\((.*?)\\); +// (-?\\d+|[A-Z]+)(?::.*)?");
    private static final Pattern OUT_TEXT = Pattern.compile("OUT is (\".*?\")");
    private static final Pattern FED_TEXT = Pattern.compile("// 20: (\".*?\")(?: and .*)?");
    private static final Pattern ROW = Pattern.compile("\\| `(\\w+)\\(.*?\\)` \\|(.*?)\\|(.*?)\\|.*?\\|(.*?)\\|");
    private static final String POWER_INPUT = "\0".repeat(63) + "\3\u0080" + "\0".repeat(62) + "\1";

    private static final String MAKE = "PlainSeal seal = new PlainSeal();";
    private static final int EXAMPLES = 3;
    private static final int CALLS = 12;

    public static void main(String[] args) throws IOException {
        String readme = Files.readString(Path.of("README.md"));
        examples(readme);
        table(readme);
        Check.finish();
    }

    private static void examples(String readme) {
        Matcher example = EXAMPLE.matcher(readme);
        int found = 0;
        while (example.find()) {
            String[] lines = example.group(1).split("\n");
            Check.sentence("README.md, example " + ++found);
            Check.due("the first line", lines[0], MAKE);
            Check check = new Check();
            for (int i = 1; i < lines.length; i++) {
                exampleLine(check, lines[i]);
            }
        }
        Check.due("examples in README.md", found, EXAMPLES);
    }

    private static void exampleLine(Check check, String line) {
        Matcher call = CALL.matcher(line);
        if (!call.matches()) {
            Check.due("a call with its answer", line, "seal.call(...); // answer: words");
            return;
        }
        Check.due(line, ask(check.seal, call.group(1), arguments(call.group(2))), answer(call.group(3)));
        Matcher outText = OUT_TEXT.matcher(line);
        if (outText.find()) {
            Check.due(line, check.out(), unquoted(outText.group(1)));
        }
        Matcher fedText = FED_TEXT.matcher(line);
        if (call.group(1).equals("feed") && fedText.find()) {
            String fed = fedBytes(arguments(call.group(2)));
            String said = unquoted(fedText.group(1));
            Check.due(line, fed, said + "\0".repeat(20 - said.length()));
        }
    }

    private static Object[] arguments(String words) {
        List<Object> found = new ArrayList<>();
        for (String word : words.isEmpty() ? new String[0] : words.split(", ")) {
            boolean truth = word.equals("true") || word.equals("false");
            found.add(truth ? (Object) Boolean.valueOf(word) : (Object) Long.decode(word).intValue());
        }
        return found.toArray();
    }

    private static int answer(String word) {
        switch (word) {
            case "REFUSED": return PlainSeal.REFUSED;
            case "NONE": return PlainSeal.NONE;
            case "FULL": return PlainSeal.FULL;
            default: return Integer.parseInt(word);
        }
    }

    private static String unquoted(String quoted) {
        return quoted.substring(1, quoted.length() - 1).replace("\\n", "\n").replace("\\t", "\t");
    }

    private static String fedBytes(Object[] words) {
        StringBuilder fed = new StringBuilder();
        for (Object word : words) {
            for (int shift = 24; shift >= 0; shift -= 8) {
                fed.append((char) ((Integer) word >>> shift & 255));
            }
        }
        return fed.toString();
    }

    private static int ask(Counted seal, String name, Object... arguments) {
        for (Method method : Counted.class.getDeclaredMethods()) {
            if (method.getName().equals(name) && method.getParameterCount() == arguments.length) {
                try {
                    return (Integer) method.invoke(seal, arguments);
                } catch (ReflectiveOperationException thrown) {
                    throw new IllegalStateException(thrown);
                }
            }
        }
        throw new IllegalStateException("there is no call " + name + " with " + arguments.length + " arguments");
    }

    private static void table(String readme) {
        Map<String, String[]> rows = new LinkedHashMap<>();
        Matcher row = ROW.matcher(readme);
        while (row.find()) {
            rows.put(row.group(1), new String[] {row.group(2).trim(), row.group(3).trim(), row.group(4).trim()});
        }
        Check.sentence("README.md, the table of calls");
        Check.due("rows", rows.size(), CALLS);
        if (rows.size() == CALLS) {
            goodRows(rows);
            wrongRows(rows);
        }
    }

    private static void goodRows(Map<String, String[]> rows) {
        goodRow(rows, "xy", "feed", 0, 0, 0, 0, 0);
        goodRow(rows, "xy", "end", 1);
        goodRow(rows, "B:c", "message");
        goodRow(rows, "xy", "plainBody", true);
        goodRow(rows, "xy", "plainField", 0, true);
        goodRow(rows, "a", "named");
        goodRow(rows, "w=2", "tags");
        goodRow(rows, "v", "tag");
        goodRow(rows, "YQ==", "decode", 1);
        goodRow(rows, "xy", "digest");
        goodRow(rows, POWER_INPUT, "power");
        goodRow(rows, "xy", "octet", 0);
    }

    private static void goodRow(Map<String, String[]> rows, String tape, String name, Object... arguments) {
        Check check = ready(true).put(tape);
        int got = ask(check.seal, name, arguments);
        Check.due(name + " answered 0 or more", got >= 0 ? 1 : 0, 1);
        Check.due(name + ", OUT", check.out().equals("mark") ? "stays" : "set", rows.get(name)[1]);
        Check.due(name + ", the TAPE", tapeWords(tape.length(), check.tapeSize()), rows.get(name)[0]);
    }

    private static String tapeWords(int before, int behind) {
        if (behind == before) {
            return "stays";
        }
        if (behind == before + 20) {
            return "20 bytes come to it";
        }
        return behind == 0 ? "emptied" : "is cut to n bytes";
    }

    private static void wrongRows(Map<String, String[]> rows) {
        Map<String, TreeSet<String>> seen = new LinkedHashMap<>();
        wrong(seen, true, "x".repeat(2000), "feed", 0, 0, 0, 0, 0);
        wrong(seen, true, "xy", "end", 3);
        wrong(seen, true, "xy", "message");
        wrong(seen, false, "xy", "plainBody", true);
        wrong(seen, true, "xy", "plainField", 1, true);
        wrong(seen, false, "xy", "named");
        wrong(seen, true, "xy", "tags");
        wrong(seen, true, "xy", "tag");
        wrong(seen, true, "xy", "decode", 901);
        wrong(seen, true, "xy", "decode", 1);
        wrong(seen, true, "xy", "power");
        wrong(seen, true, "xy", "octet", 4);
        for (String name : rows.keySet()) {
            TreeSet<String> said = new TreeSet<>(List.of(rows.get(name)[2].replace("`", "").split(", ")));
            said.remove("");
            Check.due(name + ", answers below 0", seen.getOrDefault(name, new TreeSet<>()).toString(), said.toString());
        }
    }

    private static void wrong(Map<String, TreeSet<String>> seen, boolean message, String tape, String name, Object... arguments) {
        Check check = ready(message).put(tape);
        int got = ask(check.seal, name, arguments);
        check.outIsMark("behind " + name);
        boolean reads = !List.of("feed", "end", "plainBody", "plainField", "octet").contains(name);
        boolean left = !reads || got == PlainSeal.REFUSED && name.equals("decode");
        Check.due(name + " answered " + got + ", the TAPE", check.tapeSize(), left ? tape.length() : 0);
        String word = got == PlainSeal.REFUSED ? "REFUSED" : got == PlainSeal.NONE ? "NONE" : got == PlainSeal.FULL ? "FULL" : "" + got;
        seen.computeIfAbsent(name, key -> new TreeSet<>()).add(word);
    }

    /** TAGS and a known OUT, and a MESSAGE if one is wanted. */
    private static Check ready(boolean message) {
        Check check = new Check();
        if (message) {
            Check.due("message", check.put("A:b\n\nc\n").seal.message(), 1);
        }
        Check.due("tags", check.put("v=1").seal.tags(), 1);
        return check.markOut();
    }
}
