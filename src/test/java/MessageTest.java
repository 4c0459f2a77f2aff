/** Promises 4 and 7: message and named. */
public final class MessageTest {
    private static final String NAME_OF_20 = "abcdefghijklmnopqrst";

    public static void main(String[] args) {
        countsFields();
        refusesWhatIsNone();
        refusedKeepsTheMessageBefore();
        newMessageTakesThePlace();
        countsNames();
        Check.finish();
    }

    private static void fields(String text, int want) {
        Check.due("message() of " + Check.shown(text), new Check().put(text).seal.message(), want);
    }

    private static void countsFields() {
        fields("A:b", 1);
        fields("A:b\n", 1);
        fields("A:b\n\n", 1);
        fields("A:b\nB:c", 2);
        fields("A:b\nB:c\n\nC:d\nE", 2);
        fields("A:", 1);
        fields("A:\n", 1);
        fields("A:\nB:", 2);
        fields("A::", 1);
        fields("-:x", 1);
        fields("0-9aZ:x", 1);
        fields("A:b\n c\n\td\n", 1);
        fields("A:b\n \n\t\nB:c", 2);
        fields("A:b\n ", 1);
        fields("A:b\n no name here\nB:c", 2);
        fields("A:b\n\n\n\n", 1);
        fields("A:\0\u00ff\r\nB:c", 2);
        fields(NAME_OF_20 + ":x", 1);
        fields("A:b\n".repeat(20), 20);
        fields("A:b\n".repeat(20) + " c\n", 20);
        fields("A:b\n".repeat(20) + "\nA:b\nA:b\n", 20);
        fields("A:b\n\n" + "x".repeat(1995), 1);
        fields("A:" + "x".repeat(1998), 1);
    }

    private static void refusesWhatIsNone() {
        fields("", PlainSeal.REFUSED);
        fields("\n", PlainSeal.REFUSED);
        fields("\nA:b", PlainSeal.REFUSED);
        fields(" A:b", PlainSeal.REFUSED);
        fields("\tA:b", PlainSeal.REFUSED);
        fields("A", PlainSeal.REFUSED);
        fields(":b", PlainSeal.REFUSED);
        fields("A :b", PlainSeal.REFUSED);
        fields("A_B:b", PlainSeal.REFUSED);
        fields("\u00e4:b", PlainSeal.REFUSED);
        fields("A@:b", PlainSeal.REFUSED);
        fields("A[:b", PlainSeal.REFUSED);
        fields("A`:b", PlainSeal.REFUSED);
        fields("A{:b", PlainSeal.REFUSED);
        fields("A/:b", PlainSeal.REFUSED);
        fields("A\n:b", PlainSeal.REFUSED);
        fields(NAME_OF_20 + "u:x", PlainSeal.REFUSED);
        fields("A:b\nB", PlainSeal.REFUSED);
        fields("A:b\nB\n\nbody", PlainSeal.REFUSED);
        fields("A:b\n\r\nbody", PlainSeal.REFUSED);
        fields("A:b\n".repeat(21), PlainSeal.REFUSED);
        fields("A:b\n".repeat(20) + "\u00e4", PlainSeal.REFUSED);
    }

    private static void refusedKeepsTheMessageBefore() {
        Check check = new Check();
        Check.due("message", check.put("A:b\nB:c\n\nbody").seal.message(), 2);
        Check.due("message refused", check.put("A:x\nA:y\nwrong").seal.message(), PlainSeal.REFUSED);
        Check.due("named A", check.put("A").seal.named(), 1);
        Check.due("field 1", check.seal.plainField(1, false), 3);
        Check.due("field 1 text", check.out(), "B:c");
        Check.due("no field 2", check.seal.plainField(2, false), PlainSeal.NONE);
        Check.due("body", check.seal.plainBody(false), 5);
        Check.due("body text", check.out(), "body\n");
        check.markOut().put("wrong").seal.message();
        check.outIsMark("behind a refused message");
        check.put("A:b").seal.message();
        check.outIsMark("behind a message");
    }

    private static void newMessageTakesThePlace() {
        Check check = new Check();
        Check.due("long message", check.put("A:b\nB:c\nC:d\n\nbody").seal.message(), 3);
        Check.due("short message", check.put("Z:y\n").seal.message(), 1);
        Check.due("field 1 is gone", check.seal.plainField(1, true), PlainSeal.NONE);
        Check.due("field 0", check.seal.plainField(0, true), 3);
        Check.due("field 0 text", check.out(), "z:y");
        Check.due("body is gone", check.seal.plainBody(true), 0);
        Check.due("name is gone", check.put("A").seal.named(), 0);
    }

    private static void countsNames() {
        Check check = new Check();
        check.put("From:a\nfrom:b\nTO:c\n From:x\nFROM-1:d\nFro:e\n\nFrom:f\n").seal.message();
        named(check, "From", 2);
        named(check, "fROM", 2);
        named(check, "to", 1);
        named(check, "from-1", 1);
        named(check, "FRO", 1);
        named(check, "fr", 0);
        named(check, "from-", 0);
        named(check, "From:", 0);
        named(check, " From", 0);
        named(check, "", 0);
        named(check, "\u0086rom", 0);
        named(check, "x".repeat(1980), 0);
        // Letters alone have small forms: - and digits with the letters' bit changed are others.
        named(check, "from\r1", 0);
        named(check, "from-\u0011", 0);
        check.markOut();
        named(check, "From", 2);
        check.outIsMark("behind named");
        check.put(NAME_OF_20 + ":x\n" + NAME_OF_20.toUpperCase() + ":y").seal.message();
        named(check, NAME_OF_20, 2);
        named(check, NAME_OF_20 + "u", 0);
    }

    private static void named(Check check, String name, int want) {
        Check.due("named() of " + Check.shown(name), check.put(name).seal.named(), want);
    }
}
