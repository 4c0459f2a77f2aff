import java.math.BigInteger;
import java.util.ArrayList;
import java.util.Arrays;
import java.util.Base64;
import java.util.LinkedHashMap;
import java.util.List;
import java.util.Locale;
import java.util.Map;
import java.util.Random;
import java.util.regex.Matcher;
import java.util.regex.Pattern;

/** Runs of mixed calls, each answer against a model written with texts and patterns. */
public final class MixedRunsTest {
    private static final int RUNS = 8000;
    /** What one step may need, but for the reading of OUT. */
    private static final int CALLS_OF_A_STEP = 20;
    private static final Pattern FIELD = Pattern.compile("([A-Za-z0-9-]{1,20}):([^\n]*(?:\n[ \t][^\n]*)*)(?:\n|$)", Pattern.DOTALL);
    private static final Pattern TAG = Pattern.compile("([a-z]{1,8})=([^;]*)", Pattern.DOTALL);
    private static final String[] MESSAGE_BITS = {
        "A:", "b:", "From:", "x", " ", "\t", "\n", "\n ", "\n\n", "\n\t", ":", "a:b\n", "To: c  d \n", "\r", "\u00ff", "-9:", "  \n"
    };
    private static final String[] TAG_BITS = {"a=", "b=", "cd=", ";", ";", "; ", "=", "x", " ", "\n", "\t", "abcdefgh=", "i", "A", "\0", "e=f;"};
    private static final String[] NAMES = {"A", "a", "B", "From", "to", "-9", "b", "cd", "abcdefgh", "e", "x", "", "a ", "a=", "To:"};

    private final Check check = new Check();
    private final Counted seal = check.seal;
    private final Random random;
    private String tape = "";
    private String out = "";
    private List<String[]> fields = null;
    private String body = "";
    private Map<String, String> told = new LinkedHashMap<>();

    private MixedRunsTest(long seed) {
        random = new Random(seed);
    }

    public static void main(String[] args) {
        for (int run = 0; run < RUNS; run++) {
            MixedRunsTest test = new MixedRunsTest(run);
            for (int step = 0; test.seal.left() >= CALLS_OF_A_STEP; step++) {
                test.step("run " + run + ", step " + step + ": ");
            }
        }
        Check.finish();
    }

    private void step(String where) {
        switch (random.nextInt(19)) {
            case 0: case 1: feedBits(where, MESSAGE_BITS); break;
            case 2: feedBits(where, TAG_BITS); break;
            case 3: feed(where, NAMES[random.nextInt(NAMES.length)]); break;
            case 4: feedNumbers(where); break;
            case 5: end(where); break;
            case 6: message(where); break;
            case 7: plainBody(where, random.nextBoolean()); break;
            case 8: plainField(where, random.nextInt(5) - 1, random.nextBoolean()); break;
            case 9: named(where); break;
            case 10: tags(where); break;
            case 11: tag(where); break;
            case 12: decode(where); break;
            case 13: power(where); break;
            case 14: digest(where); break;
            case 15: feedMany(where); break;
            default: octets(where); break;
        }
    }

    private void feedBits(String where, String[] bits) {
        StringBuilder text = new StringBuilder();
        int count = random.nextInt(14);
        for (int i = 0; i < count; i++) {
            text.append(bits[random.nextInt(bits.length)]);
        }
        feed(where, text.toString());
    }

    /** About as many fields or tags as there may be, sometimes two of the same letters among them. */
    private void feedMany(String where) {
        StringBuilder text = new StringBuilder();
        boolean ofFields = random.nextBoolean();
        int count = ofFields ? 17 + random.nextInt(6) : 37 + random.nextInt(6);
        int twice = random.nextInt(4) == 0 ? random.nextInt(count) : -1;
        for (int i = 0; i < count; i++) {
            char letter = (char) ('a' + (i == twice ? 0 : i % 26));
            text.append(i < 26 ? "" : "z").append(letter).append(ofFields ? ":v\n" : "=v;");
        }
        feed(where, text.toString());
    }

    private void feedNumbers(String where) {
        byte[] bytes = new byte[random.nextBoolean() ? 128 : random.nextInt(40)];
        random.nextBytes(bytes);
        if (bytes.length == 128) {
            bytes[64] |= (byte) 128;
            bytes[127] |= (byte) 1;
            feed(where, Check.text(bytes));
        } else {
            feed(where, Base64.getEncoder().encodeToString(bytes));
        }
    }

    /** Feeds whole twenties, then cuts what is too much. */
    private void feed(String where, String text) {
        String padded = text + "\0".repeat((20 - text.length() % 20) % 20);
        byte[] bytes = Check.bytes(padded);
        int[] words = new int[padded.length() / 4];
        for (int i = 0; i < bytes.length; i++) {
            words[i / 4] = words[i / 4] << 8 | bytes[i] & 255;
        }
        boolean full = false;
        int before = tape.length();
        for (int i = 0; i < words.length; i += 5) {
            full = tape.length() > 1980;
            String part = padded.substring(i * 4, i * 4 + 20);
            tape = full ? tape : tape + part;
            int got = seal.feed(words[i], words[i + 1], words[i + 2], words[i + 3], words[i + 4]);
            Check.due(where + "feed", got, full ? PlainSeal.FULL : tape.length());
        }
        if (!full) {
            cut(where, before + text.length());
        }
    }

    private void end(String where) {
        cut(where, random.nextInt(tape.length() + 3) - 1);
    }

    private void cut(String where, int n) {
        boolean refused = n < 0 || n > tape.length();
        tape = refused ? tape : tape.substring(0, n);
        Check.due(where + "end", seal.end(n), refused ? PlainSeal.REFUSED : n);
    }

    private String takeTape() {
        String taken = tape;
        tape = "";
        return taken;
    }

    private void message(String where) {
        String text = takeTape();
        Matcher matcher = FIELD.matcher(text);
        List<String[]> found = new ArrayList<>();
        int at = 0;
        while (at < text.length() && matcher.region(at, text.length()).lookingAt()) {
            found.add(new String[] {matcher.group(1), matcher.group(2)});
            at = matcher.end();
        }
        boolean over = at == text.length() || text.charAt(at) == '\n';
        int want = PlainSeal.REFUSED;
        if (over && found.size() >= 1 && found.size() <= 20) {
            want = found.size();
            fields = found;
            body = at == text.length() ? "" : text.substring(at + 1);
        }
        Check.due(where + "message of " + Check.shown(text), seal.message(), want);
    }

    private void plainBody(String where, boolean relaxed) {
        int want = PlainSeal.NONE;
        if (fields != null) {
            String plain = body;
            if (relaxed) {
                plain = plain.replaceAll("[ \t]+(?=\n|\\z)", "").replaceAll("[ \t]+", " ");
            }
            plain = plain.replaceAll("\n*\\z", "");
            out = plain.isEmpty() && relaxed ? "" : plain + "\n";
            want = out.length();
        }
        Check.due(where + "plainBody", seal.plainBody(relaxed), want);
    }

    private void plainField(String where, int k, boolean relaxed) {
        int want = PlainSeal.NONE;
        if (fields != null && k >= 0 && k < fields.size()) {
            String[] field = fields.get(k);
            out = field[0] + ":" + field[1];
            if (relaxed) {
                String value = field[1].replace("\n", "").replaceAll("[ \t]+", " ");
                out = field[0].toLowerCase(Locale.ROOT) + ":" + value.replaceAll("\\A | \\z", "");
            }
            want = out.length();
        }
        Check.due(where + "plainField", seal.plainField(k, relaxed), want);
    }

    private void named(String where) {
        String name = takeTape();
        int want = PlainSeal.NONE;
        if (fields != null) {
            want = 0;
            for (String[] field : fields) {
                want += field[0].equalsIgnoreCase(name) ? 1 : 0;
            }
        }
        Check.due(where + "named", seal.named(), want);
    }

    private void tags(String where) {
        String text = takeTape();
        String bare = text.replaceAll("[ \t\n]", "");
        bare = bare.endsWith(";") ? bare.substring(0, bare.length() - 1) : bare;
        Map<String, String> found = new LinkedHashMap<>();
        String[] parts = bare.split(";", -1);
        for (String part : parts) {
            Matcher matcher = TAG.matcher(part);
            if (matcher.matches()) {
                found.put(matcher.group(1), matcher.group(2));
            }
        }
        boolean good = found.size() == parts.length && parts.length <= 40;
        told = good ? found : told;
        Check.due(where + "tags of " + Check.shown(text), seal.tags(), good ? parts.length : PlainSeal.REFUSED);
    }

    private void tag(String where) {
        String value = told.get(takeTape());
        out = value == null ? out : value;
        Check.due(where + "tag", seal.tag(), value == null ? PlainSeal.NONE : value.length());
    }

    private void decode(String where) {
        int n = random.nextInt(8) == 0 ? (random.nextBoolean() ? -1 : 901) : tape.length() / 4 * 3 - random.nextInt(3);
        if (n < 0 || n > 900) {
            Check.due(where + "decode(" + n + ")", seal.decode(n), PlainSeal.REFUSED);
            return;
        }
        String text = takeTape();
        int want = PlainSeal.NONE;
        try {
            byte[] bytes = Base64.getDecoder().decode(Check.bytes(text));
            if (bytes.length == n && Base64.getEncoder().encodeToString(bytes).equals(text)) {
                want = n;
                out = Check.text(bytes);
            }
        } catch (IllegalArgumentException none) {
            want = PlainSeal.NONE;
        }
        Check.due(where + "decode(" + n + ")", seal.decode(n), want);
    }

    private void power(String where) {
        byte[] bytes = Check.bytes(takeTape());
        int want = PlainSeal.REFUSED;
        if (bytes.length == 128 && bytes[64] < 0 && (bytes[127] & 1) == 1) {
            BigInteger b = new BigInteger(1, Arrays.copyOf(bytes, 64));
            BigInteger p = new BigInteger(1, Arrays.copyOfRange(bytes, 64, 128));
            byte[] power = b.modPow(BigInteger.valueOf(65537), p).toByteArray();
            byte[] whole = new byte[64];
            for (int i = 1; i <= Math.min(64, power.length); i++) {
                whole[64 - i] = power[power.length - i];
            }
            out = Check.text(whole);
            want = 64;
        }
        Check.due(where + "power", seal.power(), want);
    }

    private void digest(String where) {
        out = Check.sha256(takeTape());
        Check.due(where + "digest", seal.digest(), 32);
    }

    private void octets(String where) {
        if (out.length() + 2 <= seal.left()) {
            Check.due(where + "OUT", check.out(), out);
        } else {
            Check.due(where + "octet(-1)", seal.octet(-1), out.length());
        }
    }
}
