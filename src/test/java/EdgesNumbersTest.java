import java.math.BigInteger;
import java.util.Base64;

/** The boundary sentences of promises 10, 11 and 12: decode, digest and power. */
public final class EdgesNumbersTest {
    private static final String LETTERS = "ABCDEFGHIJKLMNOPQRSTUVWXYZabcdefghijklmnopqrstuvwxyz0123456789+/";
    private static final BigInteger ONE = BigInteger.ONE;
    private static final BigInteger LEAST_P = ONE.shiftLeft(511).add(ONE);
    private static final BigInteger GREATEST = ONE.shiftLeft(512).subtract(ONE);

    public static void main(String[] args) {
        decodeOfZeroHasNone();
        decodeTakesZeroTo900();
        decodeRefusesAnotherNumberFirst();
        decodeIsNoneForAnotherNumberOfBytes();
        lettersGreatAndSmallDigitsPlusAndSlash();
        equalSignsMakeANumberOfFours();
        whatIsOverInTheLastIsZero();
        decodeOfGreatestAndLeastBytes();
        digestOfTheEmptyTape();
        digestOfTheFullTape();
        digestWhereAnotherBlockBegins();
        digestTellsEndsApart();
        powerTakesTwoNumbersOf64Bytes();
        powerNeedsTheHighestBit();
        powerNeedsTheLowestBit();
        powerOfNumbersNotBelowP();
        powerOfZero();
        powerOfOneAndOneBelowP();
        powerHasAlways64Bytes();
        powerByTheLeastAndTheGreatestP();
        Check.finish();
    }

    private static void decoded(String letters, int n, String want) {
        Check check = new Check().markOut().put(letters);
        Check.due("decode(" + n + ") of " + letters, check.seal.decode(n), n);
        Check.due("bytes of " + letters, check.out(), want);
        Check.due("tape behind it", check.tapeSize(), 0);
    }

    private static void none(String letters, int n) {
        Check check = new Check().markOut().put(letters);
        Check.due("decode(" + n + ") of " + Check.shown(letters), check.seal.decode(n), PlainSeal.NONE);
        check.outIsMark("behind decode that answered NONE");
        Check.due("tape behind it", check.tapeSize(), 0);
    }

    private static String encoded(int n) {
        return Base64.getEncoder().encodeToString(Check.bytes(bytes(n)));
    }

    private static String bytes(int n) {
        return Check.ALL_BYTES.repeat(8).substring(0, n);
    }

    private static Check made(int n) {
        Check check = new Check().put(encoded(n));
        Check.due("decode(" + n + ")", check.seal.decode(n), n);
        return check;
    }

    private static void decodeOfZeroHasNone() {
        Check.sentence("Promise 10: n bytes (0 to 900; of 0 it has none)");
        decoded("", 0, "");
        for (String letters : new String[] {"A", "=", "==", "AA==", "AAA=", "AAAA", "====", "\n", " "}) {
            none(letters, 0);
        }
        for (int n : new int[] {1, 2, 3, 4, 899, 900}) {
            none("", n);
        }
    }

    private static void decodeTakesZeroTo900() {
        Check.sentence("Promise 10: n bytes (0 to 900)");
        for (int n : new int[] {0, 1, 2, 3, 4, 5, 6, 897, 898, 899, 900}) {
            Check.due("bytes of decode(" + n + ")", Check.longOut(() -> made(n)), bytes(n));
        }
    }

    private static void decodeRefusesAnotherNumberFirst() {
        Check.sentence("Promise 10: REFUSED for another n, first (the TAPE stays)");
        String[] tapes = {"", "AAAA", "AA", "?", encoded(900), encoded(901), encoded(902), encoded(903)};
        for (String tape : tapes) {
            Check check = new Check().markOut().put(tape);
            for (int n : new int[] {-1, -2, -3, 901, 902, 903, 904, Integer.MIN_VALUE, Integer.MAX_VALUE}) {
                Check.due("decode(" + n + ")", check.seal.decode(n), PlainSeal.REFUSED);
            }
            check.outIsMark("behind refused decodes");
            check.tapeIs("the tape behind refused decodes", tape);
        }
        Check then = new Check().put("YWJj");
        Check.due("decode(901)", then.seal.decode(901), PlainSeal.REFUSED);
        Check.due("decode(3) behind it", then.seal.decode(3), 3);
        Check.due("its bytes", then.out(), "abc");
    }

    private static void decodeIsNoneForAnotherNumberOfBytes() {
        Check.sentence("Promise 10: BASE 64 of n bytes ... NONE if it is none");
        for (int has = 0; has <= 7; has++) {
            for (int n = 0; n <= 8; n++) {
                if (n != has) {
                    none(encoded(has), n);
                }
            }
        }
        for (int n : new int[] {896, 897, 898, 899}) {
            none(encoded(900), n);
        }
        none(encoded(899), 900);
        none(encoded(897), 900);
        none(encoded(901), 900);
        none(encoded(903), 900);
        none("A".repeat(2000), 900);
    }

    private static void lettersGreatAndSmallDigitsPlusAndSlash() {
        Check.sentence("Terms: BASE 64: letters great and small, digits, + /");
        for (int b = 0; b < 256; b++) {
            int six = LETTERS.indexOf(b);
            String letter = String.valueOf((char) b);
            if (six >= 0) {
                decoded("AAA" + letter, 3, "\0\0" + (char) six);
                decoded(letter + "AAA", 3, (char) (six << 2) + "\0\0");
            } else {
                none("AAA" + letter, 3);
                none(letter + "AAA", 3);
                none("AAAAA" + letter + "AA", 6);
            }
        }
        // White is none of these: it is not left out as it is in TAGS.
        none("AAAA\n", 3);
        none(" AAAA", 3);
        none("AA AA", 3);
    }

    private static void equalSignsMakeANumberOfFours() {
        Check.sentence("Terms: BASE 64: then as many = as make a number of fours");
        decoded("AA==", 1, "\0");
        decoded("AAA=", 2, "\0\0");
        decoded("AAAA", 3, "\0\0\0");
        decoded("AAAAAA==", 4, "\0\0\0\0");
        for (String wrong : new String[] {"AA", "AA=", "AA===", "AA======", "A===", "====", "=AA=", "==AA", "A=A=", "AA=A", "A=AA"}) {
            none(wrong, 1);
        }
        for (String wrong : new String[] {"AAA", "AAA==", "AAA=====", "AA==", "A=AA", "=AAA", "AAA=AAAA"}) {
            none(wrong, 2);
        }
        for (String wrong : new String[] {"AAA=", "AAAA=", "AAAA====", "AAAAA===", "AAA", "AAAAA", "AA==AA==", "AA==AAA="}) {
            none(wrong, 3);
        }
        none("AA==AA==", 2);
        none("AA==AAA=", 4);
        none("AAA=AAA=", 4);
        none("AAAAA===", 4);
    }

    private static void whatIsOverInTheLastIsZero() {
        Check.sentence("Terms: BASE 64: what is over in the last is 0");
        for (int six = 0; six < 64; six++) {
            String letter = LETTERS.substring(six, six + 1);
            if (six % 16 == 0) {
                decoded("/" + letter + "==", 1, String.valueOf((char) (0xfc | six >> 4)));
            } else {
                none("/" + letter + "==", 1);
            }
            if (six % 4 == 0) {
                decoded("AAAA//" + letter + "=", 5, "\0\0\0\u00ff" + (char) (0xf0 | six >> 2));
            } else {
                none("AAAA//" + letter + "=", 5);
            }
        }
        String last = encoded(898).substring(0, 1197);
        Check.due("decode(898)", new Check().put(last + "Q" + "==").seal.decode(898), 898);
        Check.due("decode(898), one bit over", new Check().put(last + "R" + "==").seal.decode(898), PlainSeal.NONE);
    }

    private static void decodeOfGreatestAndLeastBytes() {
        Check.sentence("Promise 10: OUT becomes these: bytes of all bits and of none");
        decoded("////", 3, "\u00ff\u00ff\u00ff");
        decoded("/w==", 1, "\u00ff");
        decoded("//8=", 2, "\u00ff\u00ff");
        decoded("gICA", 3, "\u0080\u0080\u0080");
        decoded("AAAA", 3, "\0\0\0");
    }

    private static void digest(String tape) {
        Check check = new Check().markOut().put(tape);
        Check.due("digest() of " + tape.length() + " bytes", check.seal.digest(), 32);
        Check.due("digest of " + tape.length() + " bytes", check.out(), Check.sha256(tape));
        Check.due("tape behind digest", check.tapeSize(), 0);
    }

    private static void digestOfTheEmptyTape() {
        Check.sentence("Promise 11: the DIGEST (SHA-256) of the TAPE: an empty one");
        Check check = new Check();
        Check.due("digest()", check.seal.digest(), 32);
        StringBuilder hex = new StringBuilder();
        for (byte b : Check.bytes(check.out())) {
            hex.append(String.format("%02x", b));
        }
        Check.due("digest", hex.toString(), "e3b0c44298fc1c149afbf4c8996fb92427ae41e4649b934ca495991b7852b855");
        digest("");
    }

    private static void digestOfTheFullTape() {
        Check.sentence("Promise 11: the DIGEST (SHA-256) of the TAPE: a full one");
        digest("\0".repeat(2000));
        digest("\u00ff".repeat(2000));
        digest("\u0080".repeat(2000));
        digest(bytes(2000));
        digest(bytes(1999));
        digest(bytes(1981));
        digest(bytes(1980));
    }

    private static void digestWhereAnotherBlockBegins() {
        Check.sentence("Promise 11: the DIGEST (SHA-256) of the TAPE: where another block begins");
        // 9 bytes come behind the TAPE's own, so a block more begins at 8 below each number of 64.
        for (int block = 0; block * 64 <= 2000; block++) {
            for (int near : new int[] {-9, -8, -7, -1, 0, 1}) {
                int size = block * 64 + near;
                if (size >= 0 && size <= 2000) {
                    digest(bytes(size));
                    digest("\u00ff".repeat(size));
                }
            }
        }
    }

    private static void digestTellsEndsApart() {
        Check.sentence("Promise 11: the DIGEST (SHA-256) of the TAPE: of its bytes alone");
        digest("\0");
        digest("\u0080");
        digest("a\u0080");
        digest("a\0");
        Check cut = new Check().put("abcdef");
        cut.seal.end(3);
        Check.due("digest() behind a cut", cut.seal.digest(), 32);
        Check.due("digest behind a cut", cut.out(), Check.sha256("abc"));
        Check.due("digest() again", cut.seal.digest(), 32);
        Check.due("digest of the emptied tape", cut.out(), Check.sha256(""));
    }

    private static String number(BigInteger value) {
        byte[] bytes = new byte[64];
        for (int i = 0; i < 64; i++) {
            bytes[63 - i] = value.shiftRight(8 * i).byteValue();
        }
        return Check.text(bytes);
    }

    private static void power(BigInteger b, BigInteger p, BigInteger want) {
        Check check = new Check().markOut().put(number(b) + number(p));
        String what = "power() of " + b.toString(16) + " by " + p.toString(16);
        Check.due(what, check.seal.power(), 64);
        Check.due(what, check.out(), number(want));
        Check.due("tape behind power", check.tapeSize(), 0);
    }

    private static void power(BigInteger b, BigInteger p) {
        power(b, p, b.modPow(BigInteger.valueOf(65537), p));
    }

    private static void refused(String tape) {
        Check check = new Check().markOut().put(tape);
        Check.due("power() of " + tape.length() + " bytes", check.seal.power(), PlainSeal.REFUSED);
        check.outIsMark("behind a refused power");
        Check.due("tape behind a refused power", check.tapeSize(), 0);
    }

    private static BigInteger[] someOfP() {
        BigInteger middle = new BigInteger("9e3779b97f4a7c15f39cc0605cedc835".repeat(4), 16).setBit(0);
        return new BigInteger[] {LEAST_P, LEAST_P.add(BigInteger.TWO), middle, GREATEST.subtract(BigInteger.TWO), GREATEST};
    }

    private static void powerTakesTwoNumbersOf64Bytes() {
        Check.sentence("Promise 12: two numbers of 64 bytes ... REFUSED if it is not that");
        for (int size : new int[] {0, 1, 63, 64, 65, 126, 127, 129, 130, 192, 256, 1999, 2000}) {
            refused("\u00ff".repeat(size));
        }
        Check check = new Check().put("\u00ff".repeat(128));
        Check.due("power() of 128 bytes", check.seal.power(), 64);
    }

    private static void powerNeedsTheHighestBit() {
        Check.sentence("Promise 12: p, whose highest bit is 1");
        for (BigInteger p : someOfP()) {
            power(BigInteger.TWO, p);
            refused(number(GREATEST) + number(p.clearBit(511)));
            refused(number(BigInteger.ZERO) + number(p.clearBit(511)));
        }
        refused(number(ONE) + number(ONE));
        refused(number(ONE) + number(ONE.shiftLeft(511).subtract(ONE)));
    }

    private static void powerNeedsTheLowestBit() {
        Check.sentence("Promise 12: p, whose ... the lowest, too");
        for (BigInteger p : someOfP()) {
            power(BigInteger.TWO, p);
            refused(number(GREATEST) + number(p.clearBit(0)));
            refused(number(BigInteger.ZERO) + number(p.clearBit(0)));
        }
        refused(number(ONE) + number(BigInteger.ZERO));
        refused(number(ONE) + number(ONE.shiftLeft(511)));
    }

    private static void powerOfNumbersNotBelowP() {
        Check.sentence("Promise 12: by the remainder of p: b as great as p or greater");
        for (BigInteger p : someOfP()) {
            power(p, p, BigInteger.ZERO);
            power(p.add(ONE).min(GREATEST), p);
            power(p.add(BigInteger.TWO).min(GREATEST), p);
            power(GREATEST, p);
            power(GREATEST.subtract(ONE), p);
        }
        power(LEAST_P.add(ONE), LEAST_P, ONE);
    }

    private static void powerOfZero() {
        Check.sentence("Promise 12: the 65537th power of b: b 0");
        for (BigInteger p : someOfP()) {
            power(BigInteger.ZERO, p, BigInteger.ZERO);
        }
    }

    private static void powerOfOneAndOneBelowP() {
        Check.sentence("Promise 12: the 65537th power of b: 1 stays 1, and 1 below p itself, for 65537 is odd");
        for (BigInteger p : someOfP()) {
            power(ONE, p, ONE);
            power(p.subtract(ONE), p, p.subtract(ONE));
        }
    }

    private static void powerHasAlways64Bytes() {
        Check.sentence("Promise 12: OUT becomes the ... power: 64");
        // Of a square, its root has powers without a rest.
        BigInteger root = ONE.shiftLeft(255).add(ONE.shiftLeft(254)).add(ONE);
        power(root, root.multiply(root), BigInteger.ZERO);
        power(BigInteger.ZERO, GREATEST, BigInteger.ZERO);
        power(ONE, GREATEST, ONE);
    }

    private static void powerByTheLeastAndTheGreatestP() {
        Check.sentence("Promise 12: by the remainder of p: the least and the greatest p");
        for (BigInteger p : new BigInteger[] {LEAST_P, GREATEST}) {
            for (int bit = 0; bit < 512; bit += 7) {
                power(ONE.shiftLeft(bit), p);
                power(p.subtract(ONE.shiftLeft(bit)).max(BigInteger.ZERO), p);
            }
        }
    }
}
