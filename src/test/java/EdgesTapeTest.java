/** The boundary sentences on the TAPE and OUT, and those of promises 1, 2, 3 and 13. */
public final class EdgesTapeTest {
    private static final String[] READERS = {"message", "named", "tags", "tag", "decode", "digest", "power"};

    public static void main(String[] args) {
        tapeHasNoneAtFirst();
        tapeHasAtMost2000();
        readersEmptyTheTapeWhateverTheyAnswer();
        readersEmptyAFullTape();
        refusedDecodeKeepsTheTape();
        otherCallsKeepTheTape();
        outHasNoneAtFirst();
        outStaysByCallsThatDoNotSayWhatItBecomes();
        outStaysByRefusedAndNone();
        outBecomesWholly();
        nothingIsThereInANewObject();
        newObjectsShareNothing();
        feedGivesTwentyBytesHighestFirst();
        feedIsFullBeyond2000();
        endCutsToTheFirst();
        endRefusesMoreThanThereIs();
        endRefusesBelowZero();
        octetTellsHowMany();
        octetTellsBytesAsZeroTo255();
        octetIsNoneWhereNoneIs();
        objectIsUsedFor512Calls();
        Check.finish();
    }

    private static int call(Counted seal, String reader, int n) {
        switch (reader) {
            case "message": return seal.message();
            case "named": return seal.named();
            case "tags": return seal.tags();
            case "tag": return seal.tag();
            case "decode": return seal.decode(n);
            case "digest": return seal.digest();
            case "power": return seal.power();
            default: throw new IllegalArgumentException(reader);
        }
    }

    private static Check withMessageAndTags() {
        Check check = new Check();
        Check.due("message before", check.put("A:b\n\nbody").seal.message(), 1);
        Check.due("tags before", check.put("a=b").seal.tags(), 1);
        return check;
    }

    private static String numbers(int firstOfP, int lastOfP) {
        return "\0".repeat(63) + "\2" + (char) firstOfP + "\0".repeat(62) + (char) lastOfP;
    }

    private static void tapeHasNoneAtFirst() {
        Check.sentence("Terms: THE TAPE has bytes, none at first");
        Check check = new Check();
        Check.due("end(1) on a new object", check.seal.end(1), PlainSeal.REFUSED);
        Check.due("end(0) on a new object", check.seal.end(0), 0);
        Check.due("the first feed", check.seal.feed(0, 0, 0, 0, 0), 20);
        new Check().tapeIs("a new tape", "");
    }

    private static void tapeHasAtMost2000() {
        Check.sentence("Terms: THE TAPE has ... at most 2000");
        String full = "0123456789abcdefghij".repeat(100);
        Check check = new Check().put(full);
        Check.due("end(2000)", check.seal.end(2000), 2000);
        Check.due("feed on 2000", check.seal.feed(1, 2, 3, 4, 5), PlainSeal.FULL);
        Check.due("end(2001)", check.seal.end(2001), PlainSeal.REFUSED);
        Check.due("end(2020)", check.seal.end(2020), PlainSeal.REFUSED);
        check.tapeIs("a full tape", full);
    }

    private static void readersEmptyTheTapeWhateverTheyAnswer() {
        Check.sentence("Terms: calls that read it empty it, whatever they answer");
        emptied(new Check(), "A:b", "message", 0, 1);
        emptied(new Check(), "?", "message", 0, PlainSeal.REFUSED);
        emptied(new Check(), "A", "named", 0, PlainSeal.NONE);
        emptied(withMessageAndTags(), "A", "named", 0, 1);
        emptied(withMessageAndTags(), "B", "named", 0, 0);
        emptied(new Check(), "a=b", "tags", 0, 1);
        emptied(new Check(), "?", "tags", 0, PlainSeal.REFUSED);
        emptied(withMessageAndTags(), "a", "tag", 0, 1);
        emptied(withMessageAndTags(), "b", "tag", 0, PlainSeal.NONE);
        emptied(new Check(), "a", "tag", 0, PlainSeal.NONE);
        emptied(new Check(), "AAAA", "decode", 3, 3);
        emptied(new Check(), "AAA", "decode", 3, PlainSeal.NONE);
        emptied(new Check(), "A", "decode", 0, PlainSeal.NONE);
        emptied(new Check(), "A", "digest", 0, 32);
        emptied(new Check(), numbers(128, 1), "power", 0, 64);
        emptied(new Check(), numbers(128, 2), "power", 0, PlainSeal.REFUSED);
        emptied(new Check(), "A", "power", 0, PlainSeal.REFUSED);
    }

    private static void emptied(Check check, String tape, String reader, int n, int want) {
        String what = reader + " of " + Check.shown(tape);
        Check.due(what, call(check.put(tape).seal, reader, n), want);
        Check.due("end(1) behind " + what, check.seal.end(1), PlainSeal.REFUSED);
        Check.due("feed behind " + what, check.seal.feed(0x61626364, 0, 0, 0, 0), 20);
        Check.due("end(4) behind " + what, check.seal.end(4), 4);
        check.tapeIs("the tape fed behind " + what, "abcd");
    }

    private static void readersEmptyAFullTape() {
        Check.sentence("Terms: calls that read it empty it: a full one");
        for (String reader : READERS) {
            Check check = new Check().put("?".repeat(2000));
            call(check.seal, reader, 900);
            Check.due("feed behind " + reader, check.seal.feed(0, 0, 0, 0, 0), 20);
        }
    }

    private static void refusedDecodeKeepsTheTape() {
        Check.sentence("Terms: empty it ... if nothing else is said (promise 10: the TAPE stays)");
        for (int n : new int[] {-1, 901, Integer.MIN_VALUE, Integer.MAX_VALUE}) {
            Check check = new Check().put("AAAA");
            Check.due("decode(" + n + ")", check.seal.decode(n), PlainSeal.REFUSED);
            check.tapeIs("the tape behind decode(" + n + ")", "AAAA");
        }
    }

    private static void otherCallsKeepTheTape() {
        Check.sentence("Terms: calls that read it (message, named, tags, tag, decode, digest, power)");
        Check without = new Check().put("xyz");
        Check.due("plainBody without a message", without.seal.plainBody(false), PlainSeal.NONE);
        Check.due("plainField without a message", without.seal.plainField(0, false), PlainSeal.NONE);
        Check.due("octet(0)", without.seal.octet(0), PlainSeal.NONE);
        Check.due("octet(-1)", without.seal.octet(-1), 0);
        Check.due("end(4)", without.seal.end(4), PlainSeal.REFUSED);
        without.tapeIs("the tape behind calls that do not read it", "xyz");
        Check with = withMessageAndTags().put("xyz");
        Check.due("plainBody", with.seal.plainBody(true), 5);
        Check.due("plainField", with.seal.plainField(0, true), 3);
        Check.due("plainField(1)", with.seal.plainField(1, true), PlainSeal.NONE);
        Check.due("octet(0)", with.seal.octet(0), 'a');
        with.tapeIs("the tape behind calls that do not read it", "xyz");
    }

    private static void outHasNoneAtFirst() {
        Check.sentence("Terms: OUT has bytes, none at first");
        Check check = new Check();
        Check.due("octet(-1)", check.seal.octet(-1), 0);
        Check.due("octet(0)", check.seal.octet(0), PlainSeal.NONE);
    }

    private static void outStaysByCallsThatDoNotSayWhatItBecomes() {
        Check.sentence("Terms: OUT stays by calls that do not say what it becomes");
        Check check = new Check().markOut();
        check.seal.feed(1, 2, 3, 4, 5);
        check.outIsMark("behind feed");
        check.seal.end(0);
        check.outIsMark("behind end");
        Check.due("message", check.put("A:b").seal.message(), 1);
        check.outIsMark("behind message");
        Check.due("named", check.put("A").seal.named(), 1);
        check.outIsMark("behind named");
        Check.due("named", check.put("B").seal.named(), 0);
        check.outIsMark("behind named that found 0");
        Check.due("tags", check.put("a=b").seal.tags(), 1);
        check.outIsMark("behind tags");
        check.put("x".repeat(2000)).seal.feed(1, 2, 3, 4, 5);
        check.outIsMark("behind a FULL feed");
        for (int k : new int[] {-1, 0, 3, 4, -2, Integer.MIN_VALUE, Integer.MAX_VALUE}) {
            check.seal.octet(k);
        }
        check.outIsMark("behind octet");
    }

    private static void outStaysByRefusedAndNone() {
        Check.sentence("Terms: OUT stays by calls that ... answer REFUSED or NONE");
        Check check = new Check().markOut();
        stays(check, "end", check.seal.end(1), PlainSeal.REFUSED);
        stays(check, "plainBody", check.seal.plainBody(true), PlainSeal.NONE);
        stays(check, "plainBody", check.seal.plainBody(false), PlainSeal.NONE);
        stays(check, "plainField", check.seal.plainField(0, true), PlainSeal.NONE);
        stays(check, "named", check.put("A").seal.named(), PlainSeal.NONE);
        stays(check, "message", check.put("A").seal.message(), PlainSeal.REFUSED);
        stays(check, "tags", check.put("a").seal.tags(), PlainSeal.REFUSED);
        stays(check, "tag", check.put("a").seal.tag(), PlainSeal.NONE);
        stays(check, "decode", check.put("AAA*").seal.decode(3), PlainSeal.NONE);
        stays(check, "decode", check.put("AAA=").seal.decode(3), PlainSeal.NONE);
        stays(check, "decode", check.put("AAAA").seal.decode(0), PlainSeal.NONE);
        stays(check, "decode", check.seal.decode(901), PlainSeal.REFUSED);
        stays(check, "decode", check.seal.decode(-1), PlainSeal.REFUSED);
        stays(check, "power", check.put(numbers(127, 1)).seal.power(), PlainSeal.REFUSED);
        stays(check, "power", check.put(numbers(128, 2)).seal.power(), PlainSeal.REFUSED);
        Check with = withMessageAndTags().markOut();
        stays(with, "plainField", with.seal.plainField(1, false), PlainSeal.NONE);
        stays(with, "plainField", with.seal.plainField(-1, true), PlainSeal.NONE);
        stays(with, "tag", with.put("b").seal.tag(), PlainSeal.NONE);
    }

    private static void stays(Check check, String call, int got, int want) {
        Check.due(call, got, want);
        check.outIsMark("behind " + call + " that answered " + want);
    }

    private static void outBecomesWholly() {
        Check.sentence("Terms: OUT ... what it becomes: nothing of a longer one before is left");
        Check check = withMessageAndTags();
        shorter(check, "tag", check.put("a").seal.tag(), "b");
        shorter(check, "plainField", check.seal.plainField(0, true), "a:b");
        shorter(check, "plainBody", check.seal.plainBody(true), "body\n");
        shorter(check, "decode", check.put("AA==").seal.decode(1), "\0");
        shorter(check, "decode of none", check.put("").seal.decode(0), "");
        Check.due("power", check.put(numbers(128, 1)).seal.power(), 64);
        Check.due("digest behind power", check.put("").seal.digest(), 32);
        Check.due("OUT", check.out(), Check.sha256(""));
    }

    private static void shorter(Check check, String call, int got, String want) {
        Check.due(call, got, want.length());
        Check.due("OUT behind " + call, check.out(), want);
        Check.due("digest", check.put("").seal.digest(), 32);
    }

    private static void nothingIsThereInANewObject() {
        Check.sentence("Promise 1: Nothing is there");
        Check.due("tape: end(1)", new PlainSeal().end(1), PlainSeal.REFUSED);
        Check.due("OUT: octet(-1)", new PlainSeal().octet(-1), 0);
        Check.due("OUT: octet(0)", new PlainSeal().octet(0), PlainSeal.NONE);
        Check.due("MESSAGE: plainBody(false)", new PlainSeal().plainBody(false), PlainSeal.NONE);
        Check.due("MESSAGE: plainBody(true)", new PlainSeal().plainBody(true), PlainSeal.NONE);
        Check.due("MESSAGE: plainField(0, false)", new PlainSeal().plainField(0, false), PlainSeal.NONE);
        Check.due("MESSAGE: plainField(0, true)", new PlainSeal().plainField(0, true), PlainSeal.NONE);
        Check.due("MESSAGE: named()", new PlainSeal().named(), PlainSeal.NONE);
        Check.due("TAGS: tag()", new PlainSeal().tag(), PlainSeal.NONE);
        Check.due("TAGS: tag() of a", new Check().put("a").seal.tag(), PlainSeal.NONE);
        Check.due("an empty tape: message()", new PlainSeal().message(), PlainSeal.REFUSED);
        Check.due("an empty tape: tags()", new PlainSeal().tags(), PlainSeal.REFUSED);
        Check.due("an empty tape: decode(0)", new PlainSeal().decode(0), 0);
        Check.due("an empty tape: decode(1)", new PlainSeal().decode(1), PlainSeal.NONE);
        Check.due("an empty tape: power()", new PlainSeal().power(), PlainSeal.REFUSED);
        Check.due("an empty tape: digest()", new PlainSeal().digest(), 32);
    }

    private static void newObjectsShareNothing() {
        Check.sentence("Promise 1: Nothing is there, whatever another object has");
        Check used = withMessageAndTags().markOut().put("left on the tape");
        Check fresh = new Check();
        Check.due("tape", fresh.seal.end(1), PlainSeal.REFUSED);
        Check.due("OUT", fresh.seal.octet(-1), 0);
        Check.due("MESSAGE", fresh.seal.plainBody(false), PlainSeal.NONE);
        Check.due("TAGS", fresh.put("a").seal.tag(), PlainSeal.NONE);
        Check.due("another message", fresh.put("C:d\nE:f\n").seal.message(), 2);
        Check.due("other tags", fresh.put("c=dd").seal.tags(), 1);
        Check.due("another digest", fresh.put("x").seal.digest(), 32);
        used.outIsMark("of the object used before");
        used.tapeIs("the tape of the object used before", "left on the tape");
        Check.due("its tag", used.put("a").seal.tag(), 1);
        Check.due("its field", used.seal.plainField(1, false), PlainSeal.NONE);
    }

    private static void feedGivesTwentyBytesHighestFirst() {
        Check.sentence("Promise 2: Twenty bytes, five times four, the highest of each first");
        int[][] feeds = {
            {0x00010203, 0x04050607, 0x08090a0b, 0x0c0d0e0f, 0x10111213},
            {0, 0, 0, 0, 0},
            {-1, -1, -1, -1, -1},
            {Integer.MIN_VALUE, Integer.MAX_VALUE, 0x80, 0x7f, 0xff000000},
            {0x00000080, 0x00008000, 0x00800000, 0x80000000, 1}
        };
        for (int[] f : feeds) {
            StringBuilder want = new StringBuilder("ab");
            for (int word : f) {
                want.append((char) (word >>> 24)).append((char) (word >>> 16 & 255));
                want.append((char) (word >>> 8 & 255)).append((char) (word & 255));
            }
            Check check = new Check().put("ab");
            Check.due("feed behind two bytes", check.seal.feed(f[0], f[1], f[2], f[3], f[4]), 22);
            check.tapeIs("the tape of a feed", want.toString());
        }
    }

    private static void feedIsFullBeyond2000() {
        Check.sentence("Promise 2: FULL if it would have more than 2000");
        for (int size = 1979; size <= 2000; size++) {
            String text = "0123456789abcdefghij".repeat(100).substring(0, size);
            boolean full = size > 1980;
            Check check = new Check().put(text);
            Check.due("feed on " + size, check.seal.feed(0, 0, 0, 0, 0), full ? PlainSeal.FULL : size + 20);
            check.tapeIs("the tape behind feed on " + size, full ? text : text + "\0".repeat(20));
        }
        Check again = new Check().put("x".repeat(2000));
        Check.due("feed on 2000", again.seal.feed(0, 0, 0, 0, 0), PlainSeal.FULL);
        Check.due("feed on 2000 again", again.seal.feed(0, 0, 0, 0, 0), PlainSeal.FULL);
        Check.due("a cut of a full tape", again.seal.end(5), 5);
        Check.due("feed behind the cut", again.seal.feed(0, 0, 0, 0, 0), 25);
    }

    private static void endCutsToTheFirst() {
        Check.sentence("Promise 3: The TAPE is cut to its first n bytes: n");
        String text = "0123456789abcdefghij";
        for (int n = 0; n <= text.length(); n++) {
            Check check = new Check().put(text);
            Check.due("end(" + n + ")", check.seal.end(n), n);
            check.tapeIs("the tape behind end(" + n + ")", text.substring(0, n));
        }
    }

    private static void endRefusesMoreThanThereIs() {
        Check.sentence("Promise 3: REFUSED if it has less");
        Check empty = new Check();
        Check.due("end(0) of none", empty.seal.end(0), 0);
        Check.due("end(1) of none", empty.seal.end(1), PlainSeal.REFUSED);
        Check check = new Check().put("abc");
        Check.due("end(3) of three", check.seal.end(3), 3);
        for (int n : new int[] {4, 20, 2000, 2001, Integer.MAX_VALUE}) {
            Check.due("end(" + n + ") of three", check.seal.end(n), PlainSeal.REFUSED);
        }
        check.tapeIs("the tape behind refused ends", "abc");
        Check cut = new Check().put("abcdef");
        Check.due("end(2)", cut.seal.end(2), 2);
        Check.due("end(3) behind end(2)", cut.seal.end(3), PlainSeal.REFUSED);
        cut.tapeIs("what was cut stays away", "ab");
    }

    private static void endRefusesBelowZero() {
        Check.sentence("Promise 3: REFUSED if ... n is below 0");
        for (int n : new int[] {-1, -2, -3, -20, Integer.MIN_VALUE}) {
            Check.due("end(" + n + ") of none", new Check().seal.end(n), PlainSeal.REFUSED);
            Check check = new Check().put("abc");
            Check.due("end(" + n + ") of three", check.seal.end(n), PlainSeal.REFUSED);
            check.tapeIs("the tape behind end(" + n + ")", "abc");
        }
    }

    private static void octetTellsHowMany() {
        Check.sentence("Promise 13: for k -1 how many");
        Check check = new Check();
        Check.due("octet(-1) of a new object", check.seal.octet(-1), 0);
        Check.due("decode(0)", check.put("").seal.decode(0), 0);
        Check.due("octet(-1) of none", check.seal.octet(-1), 0);
        Check.due("decode(1)", check.put("AA==").seal.decode(1), 1);
        Check.due("octet(-1) of one", check.seal.octet(-1), 1);
        Check.due("digest()", check.seal.digest(), 32);
        Check.due("octet(-1) of a digest", check.seal.octet(-1), 32);
        Check most = new Check();
        most.put("A:" + "x".repeat(1998)).seal.message();
        Check.due("plainField(0, false)", most.seal.plainField(0, false), 2000);
        Check.due("octet(-1) of 2000", most.seal.octet(-1), 2000);
    }

    private static void octetTellsBytesAsZeroTo255() {
        Check.sentence("Promise 13: Byte k of OUT");
        Check check = new Check();
        check.put("A:b\n\n" + Check.ALL_BYTES).seal.message();
        Check.due("plainBody(false)", check.seal.plainBody(false), 257);
        for (int k = 0; k < 256; k++) {
            Check.due("octet(" + k + ")", check.seal.octet(k), k);
        }
        Check.due("octet(256)", check.seal.octet(256), 10);
    }

    private static void octetIsNoneWhereNoneIs() {
        Check.sentence("Promise 13: NONE if there is none");
        int[] never = {-2, -3, -256, 2000, 2001, Integer.MIN_VALUE, Integer.MAX_VALUE};
        Check check = new Check();
        Check.due("octet(0) of none", check.seal.octet(0), PlainSeal.NONE);
        for (int k : never) {
            Check.due("octet(" + k + ") of none", check.seal.octet(k), PlainSeal.NONE);
        }
        Check.due("decode(1)", check.put("AA==").seal.decode(1), 1);
        Check.due("octet(0) of one", check.seal.octet(0), 0);
        Check.due("octet(1) of one", check.seal.octet(1), PlainSeal.NONE);
        Check most = new Check();
        most.put("A:" + "x".repeat(1998)).seal.message();
        most.seal.plainField(0, false);
        Check.due("octet(1999) of 2000", most.seal.octet(1999), 'x');
        for (int k : never) {
            Check.due("octet(" + k + ") of 2000", most.seal.octet(k), PlainSeal.NONE);
        }
    }

    private static void objectIsUsedFor512Calls() {
        Check.sentence("What it is: An object is used for at most 512 calls after it has been made");
        Check check = withMessageAndTags();
        while (check.seal.left() > 12) {
            Check.due("digest()", check.put("abc").seal.digest(), 32);
        }
        Check.due("plainField", check.seal.plainField(0, true), 3);
        Check.due("plainBody", check.seal.plainBody(true), 5);
        Check.due("tag", check.put("a").seal.tag(), 1);
        while (check.seal.left() > 1) {
            Check.due("octet(0)", check.seal.octet(0), 'b');
        }
        Check.due("the 512th call", check.seal.octet(-1), 1);
    }
}
