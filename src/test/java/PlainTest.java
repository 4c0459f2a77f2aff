/** Promises 5 and 6: plainBody and plainField. */
public final class PlainTest {
    public static void main(String[] args) {
        bodies();
        missingBodies();
        longestBody();
        fields();
        wrongFields();
        noneKeepsOut();
        Check.finish();
    }

    private static void bodies() {
        body("", "\n", "");
        body("\n", "\n", "");
        body("\n\n\n", "\n", "");
        body("a", "a\n", "a\n");
        body("a\n", "a\n", "a\n");
        body("a\n\n\n", "a\n", "a\n");
        body("\n\na", "\n\na\n", "\n\na\n");
        body("a\n\n\nb", "a\n\n\nb\n", "a\n\n\nb\n");
        body(" ", " \n", "");
        body(" \n\t\n", " \n\t\n", "");
        body("a \t\n", "a \t\n", "a\n");
        body("a  ", "a  \n", "a\n");
        body("a\n  ", "a\n  \n", "a\n");
        body("a\n \n\n", "a\n \n", "a\n");
        body(" \t a\t \tb\tc \nd", " \t a\t \tb\tc \nd\n", " a b c\nd\n");
        body("a\n \n\t\nb\n", "a\n \n\t\nb\n", "a\n\n\nb\n");
        body(" \n b", " \n b\n", "\n b\n");
        body("a\r\n\r\n", "a\r\n\r\n", "a\r\n\r\n");
        body("a \r\n", "a \r\n", "a \r\n");
        body("\0\u00ff\u00a0 \u00a0", "\0\u00ff\u00a0 \u00a0\n", "\0\u00ff\u00a0 \u00a0\n");
        body("A:b\n c\n", "A:b\n c\n", "A:b\n c\n");
    }

    private static void body(String body, String simple, String relaxed) {
        Check check = new Check();
        Check.due("message", check.put("Q:r\n s\n\n" + body).seal.message(), 1);
        bodyIs(check, body, false, simple);
        bodyIs(check, body, true, relaxed);
        bodyIs(check, body, false, simple);
    }

    private static void bodyIs(Check check, String body, boolean relaxed, String want) {
        String what = "plainBody(" + relaxed + ") of " + Check.shown(body);
        Check.due(what, check.seal.plainBody(relaxed), want.length());
        Check.due(what, check.out(), want);
    }

    private static void missingBodies() {
        for (String text : new String[] {"A:b", "A:b\n", "A:b\n\n", "A:b\n c", "A:b\n \n"}) {
            Check check = new Check();
            Check.due("message", check.put(text).seal.message(), 1);
            bodyIs(check, "nothing behind " + text, false, "\n");
            bodyIs(check, "nothing behind " + text, true, "");
        }
    }

    private static void longestBody() {
        String body = "x".repeat(1996);
        for (boolean relaxed : new boolean[] {false, true}) {
            String got = Check.longOut(() -> plainBodyOf("A:\n\n" + body, relaxed));
            Check.due("plainBody(" + relaxed + ") of 1996 bytes", got, body + "\n");
        }
    }

    private static Check plainBodyOf(String text, boolean relaxed) {
        Check check = new Check();
        Check.due("message", check.put(text).seal.message(), 1);
        check.seal.plainBody(relaxed);
        return check;
    }

    private static void fields() {
        field("A:b", "A:b", "a:b");
        field("SubJect-0Z:Ab C", "SubJect-0Z:Ab C", "subject-0z:Ab C");
        field("A:", "A:", "a:");
        field("A: \t", "A: \t", "a:");
        field("A: \n \n\t", "A: \n \n\t", "a:");
        field("A: b ", "A: b ", "a:b");
        field("A:\t b\t \tc\t", "A:\t b\t \tc\t", "a:b c");
        field("A:b\n c", "A:b\n c", "a:b c");
        field("A:b \n\t c \n d", "A:b \n\t c \n d", "a:b c d");
        field("A:b\n ", "A:b\n ", "a:b");
        field("A:b\n \n c", "A:b\n \n c", "a:b c");
        field("A: B:c : D", "A: B:c : D", "a:B:c : D");
        field("A:\r\u00ff\0 \r", "A:\r\u00ff\0 \r", "a:\r\u00ff\0 \r");
        field("A:\n b", "A:\n b", "a:b");
    }

    private static void field(String field, String simple, String relaxed) {
        String[] texts = {field, field + "\n", field + "\n\nbody\n", field + "\nNext: x\n", field + "\n\n"};
        for (String text : texts) {
            Check alone = new Check();
            alone.put(text).seal.message();
            fieldIs(alone, 0, false, simple);
            fieldIs(alone, 0, true, relaxed);
            Check second = new Check();
            second.put("First: 1\n 2\n" + text).seal.message();
            fieldIs(second, 1, false, simple);
            fieldIs(second, 1, true, relaxed);
            fieldIs(second, 0, false, "First: 1\n 2");
            fieldIs(second, 0, true, "first:1 2");
        }
    }

    private static void fieldIs(Check check, int k, boolean relaxed, String want) {
        String what = "plainField(" + k + ", " + relaxed + ")";
        Check.due(what, check.seal.plainField(k, relaxed), want.length());
        Check.due(what, check.out(), want);
    }

    private static void wrongFields() {
        Check check = new Check();
        StringBuilder text = new StringBuilder();
        for (int k = 0; k < 20; k++) {
            text.append("F").append(k).append(": ").append(k).append("\n");
        }
        Check.due("message", check.put(text.toString()).seal.message(), 20);
        for (int k = 0; k < 20; k++) {
            fieldIs(check, k, false, "F" + k + ": " + k);
            fieldIs(check, k, true, "f" + k + ":" + k);
        }
        int[] wrong = {-1, 20, 21, Integer.MIN_VALUE, Integer.MAX_VALUE};
        check.markOut();
        for (int k : wrong) {
            Check.due("plainField(" + k + ", false)", check.seal.plainField(k, false), PlainSeal.NONE);
            Check.due("plainField(" + k + ", true)", check.seal.plainField(k, true), PlainSeal.NONE);
        }
        check.outIsMark("behind fields that are not there");
    }

    private static void noneKeepsOut() {
        Check check = new Check().markOut();
        Check.due("plainBody without a message", check.seal.plainBody(false), PlainSeal.NONE);
        Check.due("plainField without a message", check.seal.plainField(0, true), PlainSeal.NONE);
        Check.due("named without a message", check.put("A").seal.named(), PlainSeal.NONE);
        check.outIsMark("without a message");
    }
}
