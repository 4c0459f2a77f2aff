import java.math.BigInteger;
import java.util.Random;

/** Promise 12: power. */
public final class PowerTest {
    private static final BigInteger EXPONENT = BigInteger.valueOf(65537);
    private static final BigInteger HIGHEST = BigInteger.ONE.shiftLeft(511);
    private static final BigInteger ALL = BigInteger.ONE.shiftLeft(512).subtract(BigInteger.ONE);

    public static void main(String[] args) {
        edges();
        randomNumbers();
        numbersThatMisleadGuesses();
        refusesWhatIsNotThat();
        Check.finish();
    }

    private static String number(BigInteger value) {
        byte[] bytes = new byte[64];
        for (int i = 0; i < 64; i++) {
            bytes[63 - i] = value.shiftRight(8 * i).byteValue();
        }
        return Check.text(bytes);
    }

    private static void power(BigInteger b, BigInteger p) {
        Check check = new Check().put(number(b) + number(p));
        String what = "power() of " + b.toString(16) + " by " + p.toString(16);
        Check.due(what, check.seal.power(), 64);
        Check.due(what, check.out(), number(b.modPow(EXPONENT, p)));
        Check.due("tape behind power", check.tapeSize(), 0);
    }

    private static void edges() {
        BigInteger[] moduli = {HIGHEST.add(BigInteger.ONE), ALL, HIGHEST.add(ALL.shiftRight(256)), ALL.clearBit(255), ALL.clearBit(510)};
        for (BigInteger p : moduli) {
            power(BigInteger.ZERO, p);
            power(BigInteger.ONE, p);
            power(BigInteger.TWO, p);
            power(p, p);
            power(p.subtract(BigInteger.ONE), p);
            power(p.subtract(BigInteger.TWO), p);
            power(p.add(BigInteger.ONE).min(ALL), p);
            power(ALL, p);
            power(HIGHEST, p);
        }
    }

    private static void randomNumbers() {
        Random random = new Random(3);
        for (int i = 0; i < 200; i++) {
            power(new BigInteger(512, random), new BigInteger(512, random).setBit(511).setBit(0));
        }
    }

    /** Stretches of equal bits make the guesses of a long division too great most often. */
    private static void numbersThatMisleadGuesses() {
        Random random = new Random(4);
        for (int i = 0; i < 300; i++) {
            power(stretches(random), stretches(random).setBit(511).setBit(0));
        }
    }

    private static BigInteger stretches(Random random) {
        BigInteger value = BigInteger.ZERO;
        boolean bit = random.nextBoolean();
        for (int i = 0; i < 512; i++) {
            if (random.nextInt(24) == 0) {
                bit = !bit;
            }
            value = bit ? value.setBit(i) : value;
        }
        return value;
    }

    private static void refused(String tape) {
        Check check = new Check().markOut().put(tape);
        Check.due("power() of " + tape.length() + " bytes", check.seal.power(), PlainSeal.REFUSED);
        check.outIsMark("behind a refused power");
        Check.due("tape behind a refused power", check.tapeSize(), 0);
    }

    private static void refusesWhatIsNotThat() {
        String good = number(BigInteger.TWO) + number(ALL);
        refused("");
        refused(good.substring(0, 127));
        refused(good + "\u00ff");
        refused(good + good);
        refused(number(ALL));
        refused(number(ALL) + number(ALL.clearBit(0)));
        refused(number(ALL) + number(ALL.clearBit(511)));
        refused(number(ALL) + number(BigInteger.ZERO));
        refused(number(ALL) + number(BigInteger.ONE));
        refused(number(ALL) + number(HIGHEST));
        power(BigInteger.ZERO, HIGHEST.setBit(0));
    }
}
