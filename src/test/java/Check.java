import java.nio.charset.StandardCharsets;

/** One object under test, with helpers that feed texts and compare answers; counts what is wrong. */
final class Check {
    private static int wrong = 0;

    final PlainSeal seal = new PlainSeal();

    static void due(String what, long got, long want) {
        if (got != want) {
            wrong++;
            System.out.println(what + " answered " + got + ", due is " + want);
        }
    }

    static void due(String what, String got, String want) {
        if (!got.equals(want)) {
            wrong++;
            System.out.println(what + " answered " + shown(got) + ", due is " + shown(want));
        }
    }

    static void finish() {
        if (wrong != 0) {
            System.exit(1);
        }
    }

    static byte[] bytes(String text) {
        return text.getBytes(StandardCharsets.ISO_8859_1);
    }

    static String text(byte[] bytes) {
        return new String(bytes, StandardCharsets.ISO_8859_1);
    }

    static String shown(String text) {
        return '"' + text.replace("\n", "\\n").replace("\t", "\\t") + '"';
    }

    /** Puts the text on an empty tape. A text of over 1980 bytes must be a number of twenties. */
    Check put(String text) {
        byte[] from = bytes(text);
        for (int at = 0; at < from.length; at += 20) {
            int[] words = new int[5];
            for (int i = 0; i < 20; i++) {
                int b = at + i < from.length ? from[at + i] & 255 : 0;
                words[i / 4] = words[i / 4] << 8 | b;
            }
            due("feed", seal.feed(words[0], words[1], words[2], words[3], words[4]), at + 20);
        }
        due("end", seal.end(from.length), from.length);
        return this;
    }

    /** The tape's size, told by one feed more, which is cut off again. */
    int tapeSize() {
        int more = seal.feed(0, 0, 0, 0, 0);
        if (more != PlainSeal.FULL) {
            return seal.end(more - 20);
        }
        int size = 2000;
        while (size > 1980 && seal.end(size) == PlainSeal.REFUSED) {
            size--;
        }
        return size;
    }

    String out() {
        int size = seal.octet(-1);
        byte[] read = new byte[size];
        for (int k = 0; k < size; k++) {
            int b = seal.octet(k);
            due("octet(" + k + ") is a byte", b >= 0 && b <= 255 ? 1 : 0, 1);
            read[k] = (byte) b;
        }
        due("octet behind the end", seal.octet(size), PlainSeal.NONE);
        return text(read);
    }

    /** Leaves a known OUT, to see that a call keeps it. */
    Check markOut() {
        due("decode for a mark", put("bWFyaw==").seal.decode(4), 4);
        return this;
    }

    void outIsMark(String behind) {
        due("OUT " + behind, out(), "mark");
    }
}
