/** The boundary sentences on PLAIN, and those of promises 5 and 6. */
public final class EdgesPlainTest {
    /** Bytes beside WHITE and byte 10 that other readers take for white or for a line's end. */
    private static final String NOT_WHITE = "\0\u0008\u000b\u000c\r!\u0080\u0085\u00a0\u00ff";

    public static void main(String[] args) {
        bodyIsNoneWithoutAMessage();
        emptyLinesAtTheEndGo();
        otherEmptyLinesStay();
        whiteAtTheEndsOfLinesGoesFirst();
        simpleKeepsWhite();
        whiteWithinIsOneBlank();
        byte10ComesIfItLacks();
        emptyBodyIsByte10OrNothing();
        onlyBytes32And9AreWhiteInABody();
        longestBodies();
        fieldIsNoneWithoutAMessage();
        fieldIsNoneIfThereIsNone();
        simpleFieldIsWithoutTheLastByte10();
        relaxedNameIsWithSmallLetters();
        relaxedValueIsWithoutBytes10();
        relaxedValueHasNoWhiteAtItsEnds();
        relaxedValueMayBeNothing();
        onlyBytes32And9AreWhiteInAField();
        longestFields();
        messageStaysAsItIs();
        Check.finish();
    }

    private static void body(String body, boolean relaxed, String want) {
        Check check = new Check();
        String what = "plainBody(" + relaxed + ") of " + Check.shown(body);
        Check.due("message", check.put("Q:r\n\n" + body).seal.message(), 1);
        Check.due(what, check.seal.plainBody(relaxed), want.length());
        Check.due(what, check.out(), want);
    }

    private static void bodies(String body, String simple, String relaxed) {
        body(body, false, simple);
        body(body, true, relaxed);
    }

    private static void field(String text, int k, boolean relaxed, String want) {
        Check check = new Check();
        String what = "plainField(" + k + ", " + relaxed + ") of " + Check.shown(text);
        check.put(text).seal.message();
        Check.due(what, check.seal.plainField(k, relaxed), want.length());
        Check.due(what, check.out(), want);
    }

    private static Check refusedOnce() {
        Check check = new Check();
        Check.due("message", check.put("A:b\nwrong").seal.message(), PlainSeal.REFUSED);
        return check;
    }

    private static void bodyIsNoneWithoutAMessage() {
        Check.sentence("Promise 5: NONE without a MESSAGE");
        for (boolean relaxed : new boolean[] {false, true}) {
            Check.due("plainBody on a new object", new Check().seal.plainBody(relaxed), PlainSeal.NONE);
            Check.due("plainBody with a tape", new Check().put("A:b\n\nc").seal.plainBody(relaxed), PlainSeal.NONE);
            Check.due("plainBody behind a refused message", refusedOnce().seal.plainBody(relaxed), PlainSeal.NONE);
        }
    }

    private static void emptyLinesAtTheEndGo() {
        Check.sentence("PLAIN: BODY: lines at the end that are empty go");
        for (int empty = 0; empty <= 4; empty++) {
            bodies("a\n" + "\n".repeat(empty), "a\n", "a\n");
            bodies("a\nb\n" + "\n".repeat(empty), "a\nb\n", "a\nb\n");
        }
        bodies("a" + "\n".repeat(1994), "a\n", "a\n");
    }

    private static void otherEmptyLinesStay() {
        Check.sentence("PLAIN: BODY: lines at the end: those before stay");
        bodies("\na", "\na\n", "\na\n");
        bodies("\n\n\na\n\n", "\n\n\na\n", "\n\n\na\n");
        bodies("a\n\nb\n\n\nc\n\n", "a\n\nb\n\n\nc\n", "a\n\nb\n\n\nc\n");
    }

    private static void whiteAtTheEndsOfLinesGoesFirst() {
        Check.sentence("PLAIN: relaxed: WHITE at the ends of lines goes first");
        for (String white : new String[] {" ", "\t", " \t", "\t ", "   "}) {
            body("a" + white, true, "a\n");
            body("a" + white + "\n", true, "a\n");
            body("a" + white + "\nb" + white + "\n", true, "a\nb\n");
            body("a\n" + white + "\nb", true, "a\n\nb\n");
            // Lines of WHITE alone are empty when the empty ones at the end go.
            body("a\n" + white, true, "a\n");
            body("a\n" + white + "\n\n" + white + "\n", true, "a\n");
            body(white, true, "");
            body(white + "\n" + white + "\n", true, "");
        }
    }

    private static void simpleKeepsWhite() {
        Check.sentence("PLAIN: simple: only lines that are empty go, and WHITE stays");
        body("a \t", false, "a \t\n");
        body("a \n\n", false, "a \n");
        body("a\n \n", false, "a\n \n");
        body("a\n\t", false, "a\n\t\n");
        body(" ", false, " \n");
        body(" \n\n\t\n\n", false, " \n\n\t\n");
        body(" \t a  b\t\tc", false, " \t a  b\t\tc\n");
    }

    private static void whiteWithinIsOneBlank() {
        Check.sentence("PLAIN: relaxed: WHITE within is one blank each");
        for (String white : new String[] {" ", "\t", " \t", "\t ", "  ", "\t\t", " \t \t "}) {
            body("a" + white + "b", true, "a b\n");
            body("a" + white + "b" + white + "c\n", true, "a b c\n");
            body(white + "a", true, " a\n");
            body("a\n" + white + "b\n", true, "a\n b\n");
            body("a" + white + "\n" + white + "b", true, "a\n b\n");
        }
    }

    private static void byte10ComesIfItLacks() {
        Check.sentence("PLAIN: one that is not empty then ends with byte 10 (which comes to it, if it lacks)");
        bodies("a", "a\n", "a\n");
        bodies("a\n", "a\n", "a\n");
        bodies("a\nb", "a\nb\n", "a\nb\n");
        bodies("a\nb\n", "a\nb\n", "a\nb\n");
        bodies("\0", "\0\n", "\0\n");
        bodies("a\r", "a\r\n", "a\r\n");
    }

    private static void emptyBodyIsByte10OrNothing() {
        Check.sentence("PLAIN: simple: an empty one is byte 10; relaxed: nothing");
        for (String text : new String[] {"A:b", "A:b\n", "A:b\n c", "A:b\n \n", "A:b\n\n", "A:b\n\n\n", "A:b\n\n\n\n\n"}) {
            Check check = new Check().markOut();
            Check.due("message", check.put(text).seal.message(), 1);
            Check.due("plainBody(false) of " + Check.shown(text), check.seal.plainBody(false), 1);
            Check.due("OUT", check.out(), "\n");
            Check.due("plainBody(true) of " + Check.shown(text), check.seal.plainBody(true), 0);
            Check.due("OUT", check.out(), "");
        }
        bodies(" \t", " \t\n", "");
        bodies(" \n\t\n", " \n\t\n", "");
        bodies("\n \n\n", "\n \n", "");
    }

    private static void onlyBytes32And9AreWhiteInABody() {
        Check.sentence("Terms: WHITE: bytes 32 and 9: in a BODY");
        for (int i = 0; i < NOT_WHITE.length(); i++) {
            String b = NOT_WHITE.substring(i, i + 1);
            bodies(b, b + "\n", b + "\n");
            bodies(b + b + "a" + b + b + "c" + b + b + "\n\n", b + b + "a" + b + b + "c" + b + b + "\n", b + b + "a" + b + b + "c" + b + b + "\n");
            bodies("a " + b + "\n" + b + "\n\n", "a " + b + "\n" + b + "\n", "a " + b + "\n" + b + "\n");
        }
    }

    private static Check bodyMade(String body, boolean relaxed) {
        Check check = new Check();
        check.put("A:\n\n" + body).seal.message();
        check.seal.plainBody(relaxed);
        return check;
    }

    private static void longestBodies() {
        Check.sentence("PLAIN: BODY: the longest that a TAPE can have");
        String bytes = Check.ALL_BYTES.repeat(7) + "x".repeat(204);
        Check.due("simple", Check.longOut(() -> bodyMade(bytes, false)), bytes + "\n");
        String marks = "a\tb\n".repeat(499);
        Check.due("relaxed", Check.longOut(() -> bodyMade(marks, true)), marks.replace('\t', ' '));
        Check.due("simple, all byte 10", bodyMade("\n".repeat(1996), false).out(), "\n");
        Check.due("relaxed, all byte 10", bodyMade("\n".repeat(1996), true).out(), "");
        Check.due("relaxed, all WHITE", bodyMade(" \t".repeat(998), true).out(), "");
        Check.due("simple, all WHITE", bodyMade(" ".repeat(1996), false).seal.octet(-1), 1997);
        Check.due("relaxed, byte 10 before one byte", bodyMade("\n".repeat(1995) + "x", true).seal.octet(-1), 1997);
        Check.due("relaxed, WHITE round one byte", bodyMade(" ".repeat(998) + "x" + "\t".repeat(997), true).out(), " x\n");
    }

    private static void fieldIsNoneWithoutAMessage() {
        Check.sentence("Promise 6: NONE if there is none: without a MESSAGE");
        for (boolean relaxed : new boolean[] {false, true}) {
            for (int k : new int[] {-1, 0, 1, 19, 20, Integer.MIN_VALUE, Integer.MAX_VALUE}) {
                Check.due("plainField(" + k + ") on a new object", new Check().seal.plainField(k, relaxed), PlainSeal.NONE);
            }
            Check.due("plainField with a tape", new Check().put("A:b").seal.plainField(0, relaxed), PlainSeal.NONE);
            Check.due("plainField behind a refused message", refusedOnce().seal.plainField(0, relaxed), PlainSeal.NONE);
        }
    }

    private static void fieldIsNoneIfThereIsNone() {
        Check.sentence("Promise 6: NONE if there is none");
        for (int count : new int[] {1, 2, 19, 20}) {
            for (boolean relaxed : new boolean[] {false, true}) {
                Check check = new Check();
                Check.due("message", check.put("A:b\n".repeat(count) + "\nC:d\n").seal.message(), count);
                Check.due("the first field", check.seal.plainField(0, relaxed), 3);
                Check.due("the last field", check.seal.plainField(count - 1, relaxed), 3);
                for (int k : new int[] {-1, -2, count, count + 1, 21, 2000, Integer.MIN_VALUE, Integer.MAX_VALUE}) {
                    Check.due("plainField(" + k + ") of " + count, check.seal.plainField(k, relaxed), PlainSeal.NONE);
                }
            }
        }
    }

    private static void simpleFieldIsWithoutTheLastByte10() {
        Check.sentence("PLAIN: FIELDS: simple: as they are, without the last byte 10");
        String[] fields = {"A:b", "A:", "aZ-9: \tB c\t ", "A:b\n c", "A:b\n ", "A:\n \n\t", "A:b \n\t c\n d "};
        for (String field : fields) {
            for (String end : new String[] {"", "\n", "\n\n", "\n\n\nbody", "\nB:c", "\nB:c\n\n d"}) {
                field(field + end, 0, false, field);
                field("First:\n x\n" + field + end, 1, false, field);
            }
        }
    }

    private static void relaxedNameIsWithSmallLetters() {
        Check.sentence("PLAIN: relaxed: the name with small letters, \":\"");
        field("ABCDEFGHIJKLM:Az", 0, true, "abcdefghijklm:Az");
        field("NOPQRSTUVWXYZ:Az", 0, true, "nopqrstuvwxyz:Az");
        field("abcdefghijklmnopqrst:AZ", 0, true, "abcdefghijklmnopqrst:AZ");
        field("uvwxyz-0123456789:AZ", 0, true, "uvwxyz-0123456789:AZ");
        field("Z:A:B", 0, true, "z:A:B");
        field("A:B\n C:D", 0, true, "a:B C:D");
    }

    private static void relaxedValueIsWithoutBytes10() {
        Check.sentence("PLAIN: relaxed: the VALUE with its bytes 10 left out, WHITE one blank each");
        for (String end : new String[] {"", "\n", "\n\nbody", "\nB:c"}) {
            for (String white : new String[] {" ", "\t", "\n ", "\n\t", " \n ", "\t\n\t", "\n \n ", " \n\t \n \t"}) {
                field("A:b" + white + "c" + end, 0, true, "a:b c");
                field("A:b" + white + "c" + white + "d" + end, 0, true, "a:b c d");
            }
        }
    }

    private static void relaxedValueHasNoWhiteAtItsEnds() {
        Check.sentence("PLAIN: relaxed: WHITE ... none at its beginning and end");
        for (String end : new String[] {"", "\n", "\n\nbody", "\nB:c"}) {
            for (String white : new String[] {"", " ", "\t", "\n ", "\n\t", " \n ", "\n \n ", " \t \n\t"}) {
                field("A:" + white + "b" + end, 0, true, "a:b");
                field("A:b" + white + end, 0, true, "a:b");
                field("A:" + white + "b c" + white + end, 0, true, "a:b c");
            }
        }
    }

    private static void relaxedValueMayBeNothing() {
        Check.sentence("PLAIN: relaxed: a VALUE that is nothing or WHITE alone");
        for (String end : new String[] {"", "\n", "\n\nbody", "\nB:c"}) {
            for (String white : new String[] {"", " ", "\t", "\n ", " \n\t\n "}) {
                field("Ab:" + white + end, 0, true, "ab:");
                field("Ab:" + white + end, 0, false, "Ab:" + white);
            }
        }
    }

    private static void onlyBytes32And9AreWhiteInAField() {
        Check.sentence("Terms: WHITE: bytes 32 and 9: in a FIELD");
        for (int i = 0; i < NOT_WHITE.length(); i++) {
            String b = NOT_WHITE.substring(i, i + 1);
            field("A:" + b, 0, true, "a:" + b);
            field("A:" + b + " \t" + b + b + "c" + b + "\n", 0, true, "a:" + b + " " + b + b + "c" + b);
            field("A: " + b + " ", 0, true, "a:" + b);
        }
    }

    private static Check fieldMade(String text, int k, boolean relaxed) {
        Check check = new Check();
        check.put(text).seal.message();
        check.seal.plainField(k, relaxed);
        return check;
    }

    private static void longestFields() {
        Check.sentence("PLAIN: FIELDS: the longest that a TAPE can have");
        String bytes = "A:" + Check.ALL_BYTES.replace("\n", "\n ").repeat(7) + "x".repeat(199);
        Check.due("simple, 2000 bytes", Check.longOut(() -> fieldMade(bytes, 0, false)), bytes);
        Check.due("simple, byte 10 at 2000", fieldMade(bytes.substring(0, 1999) + "\n", 0, false).seal.octet(-1), 1999);
        String marks = "A:" + "a\tb\n ".repeat(399) + "abc";
        String want = "a:" + "a b ".repeat(399) + "abc";
        Check.due("relaxed", Check.longOut(() -> fieldMade(marks, 0, true)), want);
        Check.due("relaxed, 2000 bytes", fieldMade("A:" + "x".repeat(1998), 0, true).seal.octet(-1), 2000);
        Check.due("relaxed, all WHITE", fieldMade("A:" + " \t".repeat(999), 0, true).out(), "a:");
        Check.due("the last bytes of a full tape", fieldMade("A:" + "x".repeat(1995) + "\nB:", 1, true).out(), "b:");
    }

    private static void messageStaysAsItIs() {
        Check.sentence("Promises 5 and 6: OUT becomes it: the MESSAGE stays");
        Check check = new Check();
        check.put("A: b \n c\nD:e\n\n f  g \n\n").seal.message();
        for (int round = 0; round < 3; round++) {
            Check.due("plainBody(true)", check.seal.plainBody(true), 5);
            Check.due("OUT", check.out(), " f g\n");
            Check.due("plainField(0, true)", check.seal.plainField(0, true), 5);
            Check.due("OUT", check.out(), "a:b c");
            Check.due("plainBody(false)", check.seal.plainBody(false), 7);
            Check.due("OUT", check.out(), " f  g \n");
            Check.due("plainField(0, false)", check.seal.plainField(0, false), 8);
            Check.due("OUT", check.out(), "A: b \n c");
            Check.due("plainField(1, false)", check.seal.plainField(1, false), 3);
            Check.due("OUT", check.out(), "D:e");
        }
    }
}
