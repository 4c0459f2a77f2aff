import java.security.MessageDigest;
import java.security.NoSuchAlgorithmException;
import java.util.Random;

/** Promise 11: digest. */
public final class DigestTest {
    public static void main(String[] args) throws NoSuchAlgorithmException {
        MessageDigest sha = MessageDigest.getInstance("SHA-256");
        Random random = new Random(2);
        for (int size = 0; size <= 2000; size++) {
            if (size > 1980 && size < 2000) {
                continue; // what twenties do not reach without being FULL
            }
            byte[] bytes = new byte[size];
            random.nextBytes(bytes);
            Check check = new Check().put(Check.text(bytes));
            Check.due("digest() of " + size + " bytes", check.seal.digest(), 32);
            Check.due("digest of " + size + " bytes", check.out(), Check.text(sha.digest(bytes)));
        }
        sizesThatOnlyACutReaches(sha);
        oneObjectDigestsAgain(sha);
        Check.finish();
    }

    private static void sizesThatOnlyACutReaches(MessageDigest sha) {
        for (int size = 1981; size < 2000; size++) {
            Check check = new Check().put("\u00ff".repeat(2000));
            check.seal.end(size);
            check.seal.digest();
            Check.due("digest of " + size + " bytes", check.out(), Check.text(sha.digest(Check.bytes("\u00ff".repeat(size)))));
        }
    }

    private static void oneObjectDigestsAgain(MessageDigest sha) {
        Check check = new Check().markOut();
        for (String text : new String[] {"abc", "", "x".repeat(64), "abc"}) {
            Check.due("digest() again", check.put(text).seal.digest(), 32);
            Check.due("digest again", check.out(), Check.text(sha.digest(Check.bytes(text))));
            Check.due("tape behind digest", check.tapeSize(), 0);
        }
    }
}
