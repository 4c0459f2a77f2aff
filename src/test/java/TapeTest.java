/** Promises 1, 2, 3 and 13: a new object, feed, end, octet. */
public final class TapeTest {
    public static void main(String[] args) {
        newObjectHasNothing();
        feedOrdersItsBytes();
        feedIsFullAtTwoThousand();
        endCuts();
        octetReadsOut();
        readersEmptyTheTape();
        callsThatDoNotReadKeepTheTape();
        Check.finish();
    }

    private static void newObjectHasNothing() {
        PlainSeal seal = new PlainSeal();
        Check.due("new: octet(-1)", seal.octet(-1), 0);
        Check.due("new: octet(0)", seal.octet(0), PlainSeal.NONE);
        Check.due("new: end(1)", seal.end(1), PlainSeal.REFUSED);
        Check.due("new: end(0)", seal.end(0), 0);
        Check.due("new: plainBody(false)", seal.plainBody(false), PlainSeal.NONE);
        Check.due("new: plainBody(true)", seal.plainBody(true), PlainSeal.NONE);
        Check.due("new: plainField(0, false)", seal.plainField(0, false), PlainSeal.NONE);
        Check.due("new: named()", seal.named(), PlainSeal.NONE);
        Check.due("new: tag()", seal.tag(), PlainSeal.NONE);
        Check.due("new: octet(-1) at last", seal.octet(-1), 0);
        Check check = new Check();
        Check.due("new: tag() of letters", check.put("a").seal.tag(), PlainSeal.NONE);
    }

    private static void feedOrdersItsBytes() {
        Check check = new Check();
        Check.due("feed", check.seal.feed(0x613d0001, 0x7f80ff02, 0x03040506, -1, 0x10111213), 20);
        Check.due("tags", check.seal.tags(), 1);
        check.put("a");
        Check.due("tag", check.seal.tag(), 18);
        String want = "\0\1\u007f\u0080\u00ff\2\3\4\5\6\u00ff\u00ff\u00ff\u00ff\u0010\u0011\u0012\u0013";
        Check.due("bytes of a feed", check.out(), want);
    }

    private static void feedIsFullAtTwoThousand() {
        Check check = new Check();
        for (int i = 1; i <= 100; i++) {
            Check.due("feed " + i, check.seal.feed(i, i, i, i, i), 20 * i);
        }
        Check.due("feed 101", check.seal.feed(0, 0, 0, 0, 0), PlainSeal.FULL);
        Check.due("size when full", check.tapeSize(), 2000);
        Check.due("end(1981)", check.seal.end(1981), 1981);
        Check.due("feed on 1981", check.seal.feed(0, 0, 0, 0, 0), PlainSeal.FULL);
        Check.due("size behind FULL", check.tapeSize(), 1981);
        Check.due("end(1980)", check.seal.end(1980), 1980);
        Check.due("feed on 1980", check.seal.feed(0, 0, 0, 0, 0), 2000);
    }

    private static void endCuts() {
        Check check = new Check().put("YWJjZA==");
        Check.due("end(-1)", check.seal.end(-1), PlainSeal.REFUSED);
        Check.due("end(least)", check.seal.end(Integer.MIN_VALUE), PlainSeal.REFUSED);
        Check.due("end(9)", check.seal.end(9), PlainSeal.REFUSED);
        Check.due("end(greatest)", check.seal.end(Integer.MAX_VALUE), PlainSeal.REFUSED);
        Check.due("end(8)", check.seal.end(8), 8);
        Check.due("end(4)", check.seal.end(4), 4);
        Check.due("end(5) behind a cut", check.seal.end(5), PlainSeal.REFUSED);
        Check.due("feed behind a cut", check.seal.feed(0x5a47566d, 0, 0, 0, 0), 24);
        Check.due("end(8) again", check.seal.end(8), 8);
        Check.due("decode(6)", check.seal.decode(6), 6);
        Check.due("first bytes stay", check.out(), "abcdef");
    }

    private static void octetReadsOut() {
        Check check = new Check();
        Check.due("decode(3)", check.put("AID/").seal.decode(3), 3);
        Check.due("octet(-1)", check.seal.octet(-1), 3);
        Check.due("octet(0)", check.seal.octet(0), 0);
        Check.due("octet(1)", check.seal.octet(1), 128);
        Check.due("octet(2)", check.seal.octet(2), 255);
        Check.due("octet(3)", check.seal.octet(3), PlainSeal.NONE);
        Check.due("octet(-2)", check.seal.octet(-2), PlainSeal.NONE);
        Check.due("octet(least)", check.seal.octet(Integer.MIN_VALUE), PlainSeal.NONE);
        Check.due("octet(greatest)", check.seal.octet(Integer.MAX_VALUE), PlainSeal.NONE);
    }

    private static void readersEmptyTheTape() {
        for (int round = 0; round < 14; round++) {
            // The second seven have a message and tags before them, and a tape that fits none.
            Check check = new Check();
            if (round >= 7) {
                check.put("A:b").seal.message();
                check.put("a=b").seal.tags();
            }
            check.put("?");
            read(check.seal, round % 7);
            Check.due("tape behind reader " + round, check.tapeSize(), 0);
        }
    }

    private static int read(Counted seal, int which) {
        switch (which) {
            case 0: return seal.message();
            case 1: return seal.named();
            case 2: return seal.tags();
            case 3: return seal.tag();
            case 4: return seal.decode(1);
            case 5: return seal.digest();
            default: return seal.power();
        }
    }

    private static void callsThatDoNotReadKeepTheTape() {
        Check check = new Check();
        check.put("A:b").seal.message();
        check.put("xyz");
        check.seal.plainBody(true);
        check.seal.plainField(0, false);
        check.seal.octet(0);
        check.seal.decode(901);
        check.seal.decode(-1);
        Check.due("tape behind calls that do not read it", check.tapeSize(), 3);
    }
}
