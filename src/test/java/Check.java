import java.nio.charset.StandardCharsets;
import java.security.MessageDigest;
import java.security.NoSuchAlgorithmException;
import java.util.function.Supplier;

/** One object under test, with helpers that feed texts and compare answers; counts what is wrong. */
final class Check {
    static final String ALL_BYTES = allBytes();

    private static final int READ_AT_ONCE = 200;

    private static int wrong = 0;
    private static String sentence = "";

    final Counted seal = new Counted();

    /** The document's sentence that the checks behind this are about. */
    static void sentence(String words) {
        sentence = "[" + words + "] ";
    }

    static void due(String what, long got, long want) {
        if (got != want) {
            wrong++;
            System.out.println(sentence + what + " answered " + got + ", due is " + want);
        }
    }

    static void due(String what, String got, String want) {
        if (!got.equals(want)) {
            wrong++;
            System.out.println(sentence + what + " answered " + shown(got) + ", due is " + shown(want));
        }
    }

    static void finish() {
        if (wrong != 0) {
            System.exit(1);
        }
    }

    static byte[] bytes(String text) {
        return text.getBytes(StandardCharsets.ISO_8859_1);
    }

    static String text(byte[] bytes) {
        return new String(bytes, StandardCharsets.ISO_8859_1);
    }

    static String shown(String text) {
        return '"' + text.replace("\n", "\\n").replace("\t", "\\t") + '"';
    }

    static String sha256(String text) {
        try {
            return text(MessageDigest.getInstance("SHA-256").digest(bytes(text)));
        } catch (NoSuchAlgorithmException missing) {
            throw new IllegalStateException(missing);
        }
    }

    private static String allBytes() {
        StringBuilder all = new StringBuilder();
        for (int b = 0; b < 256; b++) {
            all.append((char) b);
        }
        return all.toString();
    }

    /** Puts the text on an empty tape, in whole twenties, of which the last is cut. */
    Check put(String text) {
        byte[] from = bytes(text);
        for (int at = 0; at < from.length; at += 20) {
            int[] words = new int[5];
            for (int i = 0; i < 20; i++) {
                int b = at + i < from.length ? from[at + i] & 255 : 0;
                words[i / 4] = words[i / 4] << 8 | b;
            }
            due("feed", seal.feed(words[0], words[1], words[2], words[3], words[4]), at + 20);
        }
        due("end", seal.end(from.length), from.length);
        return this;
    }

    /** The tape's size, told by one feed more, which is cut off again. */
    int tapeSize() {
        int more = seal.feed(0, 0, 0, 0, 0);
        if (more != PlainSeal.FULL) {
            return seal.end(more - 20);
        }
        int size = 2000;
        while (size > 1980 && seal.end(size) == PlainSeal.REFUSED) {
            size--;
        }
        return size;
    }

    /** Compares the tape's bytes by their digest, which empties the tape and takes OUT. */
    void tapeIs(String what, String want) {
        due(what, tapeSize(), want.length());
        due(what, seal.digest(), 32);
        due(what + " by its digest", out(), sha256(want));
    }

    String out() {
        int size = seal.octet(-1);
        String read = outPart(0, size);
        due("octet behind the end", seal.octet(size), PlainSeal.NONE);
        return read;
    }

    private String outPart(int from, int stop) {
        byte[] read = new byte[stop - from];
        for (int k = from; k < stop; k++) {
            int b = seal.octet(k);
            due("octet(" + k + ") is a byte", b >= 0 && b <= 255 ? 1 : 0, 1);
            read[k - from] = (byte) b;
        }
        return text(read);
    }

    /** An OUT that is too long for one object's calls: the same calls again for each part of it. */
    static String longOut(Supplier<Check> again) {
        StringBuilder read = new StringBuilder();
        int size = again.get().seal.octet(-1);
        for (int from = 0; from < size; from += READ_AT_ONCE) {
            read.append(again.get().outPart(from, Math.min(from + READ_AT_ONCE, size)));
        }
        due("octet behind the end", again.get().seal.octet(size), PlainSeal.NONE);
        return read.toString();
    }

    /** Leaves a known OUT, to see that a call keeps it. */
    Check markOut() {
        due("decode for a mark", put("bWFyaw==").seal.decode(4), 4);
        return this;
    }

    void outIsMark(String behind) {
        due("OUT " + behind, out(), "mark");
    }
}
