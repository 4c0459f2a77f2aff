/** A PlainSeal that counts its calls: what it answers behind the 512th is free, so no test may ask. */
final class Counted {
    private static final int MOST_CALLS = 512;

    private final PlainSeal seal = new PlainSeal();
    private int left = MOST_CALLS;

    int left() {
        return left;
    }

    private PlainSeal counted() {
        if (left == 0) {
            throw new IllegalStateException("this test asks for more than " + MOST_CALLS + " calls");
        }
        left--;
        return seal;
    }

    int feed(int a, int b, int c, int d, int e) {
        return counted().feed(a, b, c, d, e);
    }

    int end(int n) {
        return counted().end(n);
    }

    int message() {
        return counted().message();
    }

    int plainBody(boolean relaxed) {
        return counted().plainBody(relaxed);
    }

    int plainField(int k, boolean relaxed) {
        return counted().plainField(k, relaxed);
    }

    int named() {
        return counted().named();
    }

    int tags() {
        return counted().tags();
    }

    int tag() {
        return counted().tag();
    }

    int decode(int n) {
        return counted().decode(n);
    }

    int digest() {
        return counted().digest();
    }

    int power() {
        return counted().power();
    }

    int octet(int k) {
        return counted().octet(k);
    }
}
