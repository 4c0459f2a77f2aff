import java.util.Base64;
import java.util.Random;

/** Promise 10: decode. */
public final class DecodeTest {
    private static final String LETTERS = "ABCDEFGHIJKLMNOPQRSTUVWXYZabcdefghijklmnopqrstuvwxyz0123456789+/";

    public static void main(String[] args) {
        decodesEveryLength();
        everyLetterHasItsBits();
        noneForWrongTapes();
        bitsOverAreZero();
        refusesOtherNumbersFirst();
        Check.finish();
    }

    private static void decodesEveryLength() {
        Random random = new Random(1);
        for (int n = 0; n <= 900; n++) {
            byte[] bytes = new byte[n];
            random.nextBytes(bytes);
            String letters = Base64.getEncoder().encodeToString(bytes);
            int size = n;
            Check.due("decode(" + n + ") bytes", Check.longOut(() -> decoded(letters, size)), Check.text(bytes));
        }
    }

    private static Check decoded(String letters, int n) {
        Check check = new Check().put(letters);
        Check.due("decode(" + n + ")", check.seal.decode(n), n);
        return check;
    }

    private static void everyLetterHasItsBits() {
        Check check = new Check();
        Check.due("decode all letters", check.put(LETTERS).seal.decode(48), 48);
        Check.due("all letters", check.out(), Check.text(Base64.getDecoder().decode(LETTERS)));
        for (int b = 0; b < 256; b++) {
            boolean isLetter = LETTERS.indexOf(b) >= 0;
            for (int at = 0; at < 8; at++) {
                Check one = new Check().put("A".repeat(at) + (char) b + "A".repeat(7 - at));
                Check.due("decode with byte " + b + " at " + at, one.seal.decode(6), isLetter ? 6 : PlainSeal.NONE);
            }
        }
    }

    private static void none(String text, int n) {
        Check check = new Check().markOut().put(text);
        Check.due("decode(" + n + ") of " + Check.shown(text), check.seal.decode(n), PlainSeal.NONE);
        check.outIsMark("behind a decode of none");
        Check.due("tape behind a decode of none", check.tapeSize(), 0);
    }

    private static void noneForWrongTapes() {
        none("", 1);
        none("", 3);
        none("A", 0);
        none("====", 0);
        none("AAAA", 0);
        none("AAAA", 2);
        none("AAA=", 3);
        none("AAA=", 1);
        none("AA==", 2);
        none("AA=A", 2);
        none("A===", 1);
        none("====", 1);
        none("AA", 1);
        none("AAA", 2);
        none("AA==\n", 1);
        none(" AA==", 1);
        none("AA= =", 1);
        none("AAAAAA==", 3);
        none("AA==AA==", 4);
        none("AA==AAAA", 4);
        none("AAAA====", 3);
        none("AA-_", 3);
        none("AAAA", 900);
        none("A".repeat(1204), 900);
    }

    private static void bitsOverAreZero() {
        for (int i = 0; i < 64; i++) {
            char letter = LETTERS.charAt(i);
            Check one = new Check().put("A" + letter + "==");
            Check.due("decode(1) with " + letter, one.seal.decode(1), i % 16 == 0 ? 1 : PlainSeal.NONE);
            Check two = new Check().put("AAAAAA" + letter + "=");
            Check.due("decode(5) with " + letter, two.seal.decode(5), i % 4 == 0 ? 5 : PlainSeal.NONE);
        }
    }

    private static void refusesOtherNumbersFirst() {
        Check check = new Check().markOut().put("YWJj");
        for (int n : new int[] {-1, -2, 901, Integer.MIN_VALUE, Integer.MAX_VALUE}) {
            Check.due("decode(" + n + ")", check.seal.decode(n), PlainSeal.REFUSED);
        }
        check.outIsMark("behind a refused decode");
        Check.due("decode(3) behind refused ones", check.seal.decode(3), 3);
        Check.due("bytes behind refused ones", check.out(), "abc");
        Check.due("decode(0)", check.seal.decode(0), 0);
        Check.due("OUT of decode(0)", check.out(), "");
    }
}
