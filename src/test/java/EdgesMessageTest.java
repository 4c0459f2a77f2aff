/** The boundary sentences on a MESSAGE, and those of promises 4 and 7. */
public final class EdgesMessageTest {
    private static final String NAME_OF_20 = "abcdefghi-ABCDEFG-09";
    /** Bytes beside WHITE and byte 10 that other readers take for white or for a line's end. */
    private static final String NOT_WHITE = "\0\u0008\u000b\u000c\r!\u0080\u0085\u00a0\u00ff";

    public static void main(String[] args) {
        refusedKeepsTheMessageBefore();
        refusedMakesNoMessage();
        messageTakesThePlaceOfTheOneBefore();
        lastLineMayBeWithoutByte10();
        bodyMayBeMissingWithItsEmptyLine();
        firstEmptyLineEndsTheFields();
        bodyIsAnyBytes();
        nameHasOneToTwentyBytes();
        nameIsOfLettersDigitsAndMinus();
        nameHasAColonBehind();
        valueIsBytes();
        linesThatBeginWithWhiteBelongToTheField();
        linesOfWhiteAloneToo();
        whiteIsBytes32And9();
        fieldsAreOneToTwenty();
        messageFillsTheTape();
        namedIsNoneWithoutAMessage();
        namedCountsFromNoneToAll();
        namesAreAlikeWithSmallLetters();
        onlyTheWholeTapeIsTheName();
        Check.finish();
    }

    private static void fields(String text, int want) {
        Check.due("message() of " + Check.shown(text), new Check().put(text).seal.message(), want);
    }

    private static void field(Check check, int k, String want) {
        Check.due("plainField(" + k + ", false)", check.seal.plainField(k, false), want.length());
        Check.due("field " + k, check.out(), want);
    }

    private static void body(Check check, String want) {
        Check.due("plainBody(false)", check.seal.plainBody(false), want.length());
        Check.due("body", check.out(), want);
    }

    private static void named(Check check, String name, int want) {
        Check.due("named() of " + Check.shown(name), check.put(name).seal.named(), want);
    }

    private static void refusedKeepsTheMessageBefore() {
        Check.sentence("Promise 4: REFUSED if it is none (the MESSAGE before stays)");
        String[] none = {"", "\n", "C", "C:x\nD:y\nE:z\nwrong", "C:x\n".repeat(21), " C:x\n\nother", "C:x\nD:y\nE:z\nF\n\nother"};
        for (String text : none) {
            Check check = new Check();
            Check.due("message", check.put("A:b\nB:c\n d\n\nbody").seal.message(), 2);
            Check.due("message() of " + Check.shown(text), check.put(text).seal.message(), PlainSeal.REFUSED);
            field(check, 0, "A:b");
            field(check, 1, "B:c\n d");
            Check.due("field 2", check.seal.plainField(2, false), PlainSeal.NONE);
            body(check, "body\n");
            named(check, "a", 1);
            named(check, "c", 0);
        }
    }

    private static void refusedMakesNoMessage() {
        Check.sentence("Promise 4: REFUSED if it is none: then there is still no MESSAGE");
        Check check = new Check();
        Check.due("message", check.put("A:b\nwrong").seal.message(), PlainSeal.REFUSED);
        Check.due("plainBody", check.seal.plainBody(false), PlainSeal.NONE);
        Check.due("plainField", check.seal.plainField(0, false), PlainSeal.NONE);
        named(check, "A", PlainSeal.NONE);
    }

    private static void messageTakesThePlaceOfTheOneBefore() {
        Check.sentence("Promise 4: The TAPE is THE MESSAGE");
        Check check = new Check();
        Check.due("message of 20", check.put("A:b\n".repeat(20) + "\nbody").seal.message(), 20);
        Check.due("message of 1", check.put("B:c").seal.message(), 1);
        field(check, 0, "B:c");
        Check.due("field 1", check.seal.plainField(1, false), PlainSeal.NONE);
        body(check, "\n");
        named(check, "A", 0);
        Check.due("message of 20", check.put("A:b\n".repeat(20) + "\nbody").seal.message(), 20);
        field(check, 19, "A:b");
        body(check, "body\n");
        named(check, "A", 20);
    }

    private static void lastLineMayBeWithoutByte10() {
        Check.sentence("Terms: Lines end with byte 10 (the last one may without)");
        String[] texts = {"A:b", "A:", "A:b\nB:c", "A:b\nB:", "A:b\nB:c\n d", "A:b\nB:c\n ", "A:b\n\nbody", "A:b\nB:c\n\nbody"};
        int[] count = {1, 1, 2, 2, 2, 2, 1, 2};
        for (int i = 0; i < texts.length; i++) {
            fields(texts[i], count[i]);
            fields(texts[i] + "\n", count[i]);
        }
        fields("A", PlainSeal.REFUSED);
        fields("A\n", PlainSeal.REFUSED);
        fields("A:b\nB", PlainSeal.REFUSED);
        fields("A:b\nB\n", PlainSeal.REFUSED);
    }

    private static void bodyMayBeMissingWithItsEmptyLine() {
        Check.sentence("Terms: the BODY (any bytes; may be missing with its empty line)");
        for (String text : new String[] {"A:b", "A:b\n", "A:b\n\n"}) {
            Check check = new Check();
            Check.due("message() of " + Check.shown(text), check.put(text).seal.message(), 1);
            field(check, 0, "A:b");
            body(check, "\n");
            Check.due("plainBody(true)", check.seal.plainBody(true), 0);
        }
    }

    private static void firstEmptyLineEndsTheFields() {
        Check.sentence("Terms: FIELDS, then a line that is empty, then the BODY");
        String[] bodies = {"B:c", " c", "\tc", "\nB:c", "\n\n c", "no field", ":", "\n\n\nx"};
        for (String text : bodies) {
            Check check = new Check();
            Check.due("message", check.put("A:b\n\n" + text).seal.message(), 1);
            field(check, 0, "A:b");
            body(check, text + "\n");
        }
    }

    private static void bodyIsAnyBytes() {
        Check.sentence("Terms: the BODY (any bytes)");
        Check check = new Check();
        Check.due("message", check.put("A:b\n\n" + Check.ALL_BYTES).seal.message(), 1);
        body(check, Check.ALL_BYTES + "\n");
    }

    private static void nameHasOneToTwentyBytes() {
        Check.sentence("Terms: a name of 1 to 20");
        for (String before : new String[] {"", "A:b\n", "A:b\n c\n", "A:b\n \n"}) {
            int at = before.isEmpty() ? 0 : 1;
            fields(before + ":x", PlainSeal.REFUSED);
            fields(before + "q:x", at + 1);
            fields(before + NAME_OF_20.substring(1) + ":x", at + 1);
            fields(before + NAME_OF_20 + ":x", at + 1);
            fields(before + NAME_OF_20 + ":", at + 1);
            fields(before + NAME_OF_20 + "z:x", PlainSeal.REFUSED);
            fields(before + NAME_OF_20 + NAME_OF_20 + ":x", PlainSeal.REFUSED);
            fields(before + NAME_OF_20, PlainSeal.REFUSED);
        }
    }

    private static void nameIsOfLettersDigitsAndMinus() {
        Check.sentence("Terms: a name of ... letters, digits, -");
        String good = "ABCDEFGHIJKLMNOPQRSTUVWXYZabcdefghijklmnopqrstuvwxyz0123456789-";
        for (int b = 0; b < 256; b++) {
            boolean isGood = good.indexOf(b) >= 0;
            // A colon inside ends the name: what is behind it is the VALUE.
            fields("x" + (char) b + "y:v", isGood || b == ':' ? 1 : PlainSeal.REFUSED);
            fields((char) b + ":v", isGood ? 1 : PlainSeal.REFUSED);
            // WHITE goes on with the field before, and byte 10 ends the FIELDS.
            int behind = b == ' ' || b == '\t' || b == '\n' ? 1 : PlainSeal.REFUSED;
            fields("A:b\n" + (char) b + "y:v", isGood ? 2 : behind);
        }
    }

    private static void nameHasAColonBehind() {
        Check.sentence("Terms: then \":\"");
        fields("A", PlainSeal.REFUSED);
        fields("A b", PlainSeal.REFUSED);
        fields("A :b", PlainSeal.REFUSED);
        fields("A\t:b", PlainSeal.REFUSED);
        fields("A\n:b", PlainSeal.REFUSED);
        fields("A\n :b", PlainSeal.REFUSED);
        fields("A;b", PlainSeal.REFUSED);
        fields("A9b", PlainSeal.REFUSED);
        fields("A::", 1);
        fields("A::B:", 1);
    }

    private static void valueIsBytes() {
        Check.sentence("Terms: then its VALUE, bytes");
        fields("A:", 1);
        fields("A:\n", 1);
        fields("A:\nB:\n\nbody", 2);
        String value = Check.ALL_BYTES.replace("\n", "");
        Check check = new Check();
        Check.due("message", check.put("A:" + value + "\nB:c").seal.message(), 2);
        field(check, 0, "A:" + value);
    }

    private static void linesThatBeginWithWhiteBelongToTheField() {
        Check.sentence("Terms: with the lines behind that begin with WHITE");
        for (String white : new String[] {" ", "\t", " \t "}) {
            Check check = new Check();
            String first = "A:b\n" + white + "c\n" + white + "B:d";
            Check.due("message", check.put(first + "\nC:e\n" + white + "f").seal.message(), 2);
            field(check, 0, first);
            field(check, 1, "C:e\n" + white + "f");
            fields(white + "A:b", PlainSeal.REFUSED);
            fields(white + "\nA:b", PlainSeal.REFUSED);
        }
    }

    private static void linesOfWhiteAloneToo() {
        Check.sentence("Terms: lines that begin with WHITE (of WHITE alone, too)");
        for (String white : new String[] {" ", "\t", " \t "}) {
            Check check = new Check();
            String first = "A:b\n" + white + "\n" + white;
            Check.due("message", check.put(first + "\nB:c\n" + white + "\n\n" + white + "\nx").seal.message(), 2);
            field(check, 0, first);
            field(check, 1, "B:c\n" + white);
            body(check, white + "\nx\n");
            fields(white, PlainSeal.REFUSED);
            fields("A:\n" + white, 1);
        }
    }

    private static void whiteIsBytes32And9() {
        Check.sentence("Terms: WHITE: bytes 32 and 9");
        for (int i = 0; i < NOT_WHITE.length(); i++) {
            char b = NOT_WHITE.charAt(i);
            fields("A:b\n" + b, PlainSeal.REFUSED);
            fields("A:b\n" + b + "c\n", PlainSeal.REFUSED);
            fields("A:b\n" + b + "\n\nbody", PlainSeal.REFUSED);
        }
    }

    private static void fieldsAreOneToTwenty() {
        Check.sentence("Terms: 1 to 20 FIELDS");
        fields("", PlainSeal.REFUSED);
        fields("\n", PlainSeal.REFUSED);
        fields("\nbody", PlainSeal.REFUSED);
        fields("\n\nA:b", PlainSeal.REFUSED);
        String[] behind = {"", "\n", "\nbody", "\nA:b\nA:b", " c", " c\n", "\t\n\nA:b"};
        for (int count = 1; count <= 25; count++) {
            for (String end : behind) {
                fields("A:b\n".repeat(count) + end, count <= 20 ? count : PlainSeal.REFUSED);
            }
            fields("A:b\n".repeat(count - 1) + "A:b", count <= 20 ? count : PlainSeal.REFUSED);
            fields("A:b\n c\n \n".repeat(count), count <= 20 ? count : PlainSeal.REFUSED);
        }
        fields("A:b\n" + " c\n".repeat(21), 1);
        fields("A:b\n".repeat(20) + "wrong", PlainSeal.REFUSED);
        fields("A:b\n".repeat(20) + "\n" + "A:b\n".repeat(21), 20);
    }

    private static void messageFillsTheTape() {
        Check.sentence("Promise 4: The TAPE is THE MESSAGE: a full one, too");
        fields("A:" + "x".repeat(1998), 1);
        fields("A:" + "x".repeat(1997) + "\n", 1);
        fields("A:" + "x".repeat(1996) + "\n\n", 1);
        fields("A:" + "x".repeat(1994) + "\nB:c", 2);
        fields("A:" + "x".repeat(1995) + "\nB:", 2);
        fields("A:" + "x".repeat(1996) + "\nB", PlainSeal.REFUSED);
        fields("A:" + "x".repeat(1996) + "\n ", 1);
        fields("A:\n\n" + "\n".repeat(1996), 1);
        fields("A".repeat(2000), PlainSeal.REFUSED);
    }

    private static void namedIsNoneWithoutAMessage() {
        Check.sentence("Promise 7: NONE without a MESSAGE");
        named(new Check(), "", PlainSeal.NONE);
        named(new Check(), "A", PlainSeal.NONE);
        named(new Check(), "x".repeat(2000), PlainSeal.NONE);
        Check refused = new Check();
        refused.put("A").seal.message();
        named(refused, "A", PlainSeal.NONE);
        refused.put("A:").seal.message();
        named(refused, "A", 1);
    }

    private static void namedCountsFromNoneToAll() {
        Check.sentence("Promise 7: How many FIELDS have the name");
        for (int count : new int[] {1, 2, 19, 20}) {
            Check check = new Check();
            check.put("A:b\n B:c\n".repeat(count) + "\nA:b\nB:c").seal.message();
            named(check, "a", count);
            named(check, "B", 0);
        }
        Check mixed = new Check();
        mixed.put("A:\nB:\n".repeat(10)).seal.message();
        named(mixed, "a", 10);
        named(mixed, "b", 10);
        Check last = new Check();
        last.put("A:\n".repeat(19) + "Last:").seal.message();
        named(last, "last", 1);
    }

    private static void namesAreAlikeWithSmallLetters() {
        Check.sentence("Terms: Names are alike if they are with small letters");
        for (char name : "AMZamz059-".toCharArray()) {
            Check low = new Check();
            Check high = new Check();
            low.put(name + ":x").seal.message();
            high.put(name + ":x").seal.message();
            for (int b = 0; b < 256; b++) {
                boolean alike = Character.toLowerCase(name) == b || Character.toUpperCase(name) == b;
                named(b < 128 ? low : high, String.valueOf((char) b), alike ? 1 : 0);
            }
        }
        Check check = new Check();
        check.put("aBc-1:\nAbC-1:\nABC-1:\nabc-1:\nabd-1:").seal.message();
        named(check, "abc-1", 4);
        named(check, "ABC-1", 4);
        named(check, "AbC-1", 4);
        named(check, "ABD-1", 1);
        named(check, "abe-1", 0);
    }

    private static void onlyTheWholeTapeIsTheName() {
        Check.sentence("Promise 7: the name that the TAPE is");
        Check check = new Check();
        check.put("From:x\n" + NAME_OF_20 + ":y").seal.message();
        for (String other : new String[] {"", "F", "Fro", "Fromm", "From:", "From:x", " From", "From ", "From\n", "From\0", "rom"}) {
            named(check, other, 0);
        }
        named(check, NAME_OF_20, 1);
        named(check, NAME_OF_20.toUpperCase(), 1);
        named(check, NAME_OF_20.substring(0, 19), 0);
        named(check, NAME_OF_20.substring(0, 19) + "8", 0);
        named(check, NAME_OF_20 + "9", 0);
        named(check, "From".repeat(500), 0);
    }
}
