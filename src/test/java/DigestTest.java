import java.util.Random;

/** Promise 11: digest. */
public final class DigestTest {
    public static void main(String[] args) {
        digestsEverySize();
        oneObjectDigestsAgain();
        Check.finish();
    }

    private static void digestsEverySize() {
        Random random = new Random(2);
        for (int size = 0; size <= 2000; size++) {
            byte[] bytes = new byte[size];
            random.nextBytes(bytes);
            String text = Check.text(bytes);
            Check check = new Check().put(text);
            Check.due("digest() of " + size + " bytes", check.seal.digest(), 32);
            Check.due("digest of " + size + " bytes", check.out(), Check.sha256(text));
        }
    }

    private static void oneObjectDigestsAgain() {
        Check check = new Check().markOut();
        for (String text : new String[] {"abc", "", "x".repeat(64), "abc"}) {
            Check.due("digest() again", check.put(text).seal.digest(), 32);
            Check.due("digest again", check.out(), Check.sha256(text));
            Check.due("tape behind digest", check.tapeSize(), 0);
        }
    }
}
