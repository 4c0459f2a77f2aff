/** The boundary sentences on TAGS, and those of promises 8 and 9. */
public final class EdgesTagsTest {
    private static final String NOT_WHITE = "\0\u0008\u000b\u000c\r!\u0080\u0085\u00a0\u00ff";

    public static void main(String[] args) {
        refusedKeepsTheTagsBefore();
        refusedTellsNoTags();
        tagsTakeThePlaceOfThoseBefore();
        whiteAndByte10AreLeftOut();
        onlyWhiteAndByte10AreLeftOut();
        oneSemicolonMayBeAtTheEnd();
        semicolonsAreBetween();
        tagHasOneToEightLetters();
        tagIsOfSmallLetters();
        tagHasAnEqualSign();
        equalSignsMayBeBehind();
        perhapsNothingIsBehind();
        atLeastOne();
        atMostForty();
        noTwoOfTheSameLetters();
        tagsFillTheTape();
        tagIsNoneWithoutTags();
        tagIsNoneIfThereIsNone();
        lettersAreComparedByteForByte();
        valueComesByteForByte();
        tagMayBeAskedAgain();
        Check.finish();
    }

    private static void tags(String text, int want) {
        Check.due("tags() of " + Check.shown(text), new Check().put(text).seal.tags(), want);
    }

    private static void value(Check check, String letters, String want) {
        String what = "tag() of " + Check.shown(letters);
        Check.due(what, check.put(letters).seal.tag(), want.length());
        Check.due(what, check.out(), want);
    }

    private static void none(Check check, String letters) {
        Check.due("tag() of " + Check.shown(letters), check.put(letters).seal.tag(), PlainSeal.NONE);
    }

    private static Check told(String text, int count) {
        Check check = new Check();
        Check.due("tags() of " + Check.shown(text), check.put(text).seal.tags(), count);
        return check;
    }

    /** The letters of tag i of many: no two of the same, of 1 to 3 letters. */
    private static String letters(int i) {
        String letter = String.valueOf((char) ('a' + i % 26));
        return letter.repeat(1 + i / 26);
    }

    private static String many(int count) {
        StringBuilder text = new StringBuilder();
        for (int i = 0; i < count; i++) {
            text.append(i == 0 ? "" : ";").append(letters(i)).append("=").append(i);
        }
        return text.toString();
    }

    private static void refusedKeepsTheTagsBefore() {
        Check.sentence("Promise 8: REFUSED if it is none (those told before stay)");
        String[] refused = {"", ";", "c", "c=3;c=4", "a=3;c=4;;", "a=3;c=4;b", "a=3;b=4;d=5;a=6", many(41), "abcdefghi=3", "A=3"};
        for (String text : refused) {
            Check check = told("a=1;b=2", 2);
            Check.due("tags() of " + Check.shown(text), check.put(text).seal.tags(), PlainSeal.REFUSED);
            value(check, "a", "1");
            value(check, "b", "2");
            none(check, "c");
            none(check, "d");
        }
        Check most = told(many(40), 40);
        Check.due("tags() of 41", most.put(many(41)).seal.tags(), PlainSeal.REFUSED);
        value(most, letters(39), "39");
        none(most, letters(40));
    }

    private static void refusedTellsNoTags() {
        Check.sentence("Promise 8: REFUSED if it is none: then there are still none");
        Check check = new Check();
        Check.due("tags()", check.put("a=1;b").seal.tags(), PlainSeal.REFUSED);
        none(check, "a");
        none(check, "b");
        none(check, "");
    }

    private static void tagsTakeThePlaceOfThoseBefore() {
        Check.sentence("Promise 8: The TAPE as TAGS: how many");
        Check check = told(many(40), 40);
        Check.due("tags() of one", check.put("zz=new").seal.tags(), 1);
        value(check, "zz", "new");
        none(check, "a");
        none(check, letters(39));
        Check.due("tags() of 40", check.put(many(40)).seal.tags(), 40);
        value(check, "a", "0");
        value(check, letters(39), "39");
    }

    private static void whiteAndByte10AreLeftOut() {
        Check.sentence("Terms: TAGS: bytes, WHITE and byte 10 left out");
        for (String white : new String[] {" ", "\t", "\n", " \t\n", "\n\n"}) {
            String text = white + "a" + white + "b" + white + "=" + white + "x" + white + "y" + white + ";" + white
                + "c" + white + "=" + white + ";" + white + "d=" + white + "=" + white;
            Check check = told(text, 3);
            value(check, "ab", "xy");
            value(check, "c", "");
            value(check, "d", "=");
            told(text + ";" + white, 3);
            tags("ab=1;a" + white + "b=2", PlainSeal.REFUSED);
        }
        tags("a b c d e f g h=x", 1);
        tags("a b c d e f g h i=x", PlainSeal.REFUSED);
    }

    private static void onlyWhiteAndByte10AreLeftOut() {
        Check.sentence("Terms: WHITE: bytes 32 and 9: in TAGS");
        for (int i = 0; i < NOT_WHITE.length(); i++) {
            String b = NOT_WHITE.substring(i, i + 1);
            tags(b + "a=x", PlainSeal.REFUSED);
            tags("a" + b + "=x", PlainSeal.REFUSED);
            tags("a=x;" + b, PlainSeal.REFUSED);
            value(told("a=" + b + "x" + b + ";c=d", 2), "a", b + "x" + b);
        }
    }

    private static void oneSemicolonMayBeAtTheEnd() {
        Check.sentence("Terms: TAGS: with ; between (one may be at the end, too)");
        tags("a=b", 1);
        tags("a=b;", 1);
        tags("a=b; \t\n", 1);
        tags("a=b;;", PlainSeal.REFUSED);
        tags("a=b; ;", PlainSeal.REFUSED);
        tags("a=;", 1);
        tags("a=;;", PlainSeal.REFUSED);
        tags("a=b;c=d;", 2);
        tags("a=b;c=d;;", PlainSeal.REFUSED);
        value(told("a=b;c=d;", 2), "c", "d");
        value(told("a=b;c=;", 2), "c", "");
    }

    private static void semicolonsAreBetween() {
        Check.sentence("Terms: TAGS: with ; between");
        tags(";", PlainSeal.REFUSED);
        tags(";;", PlainSeal.REFUSED);
        tags(";a=b", PlainSeal.REFUSED);
        tags(" ;a=b", PlainSeal.REFUSED);
        tags("a=b;;c=d", PlainSeal.REFUSED);
        tags("a=b;\n;c=d", PlainSeal.REFUSED);
        tags("a=b;c=d", 2);
        // Without ; the second is part of what is behind the first.
        value(told("a=b,c=d", 1), "a", "b,c=d");
        value(told("a=b\nc=d", 1), "a", "bc=d");
    }

    private static void tagHasOneToEightLetters() {
        Check.sentence("Terms: each TAG 1 to 8 small letters");
        for (String before : new String[] {"", "x=y;", "x=;"}) {
            int at = before.isEmpty() ? 0 : 1;
            tags(before + "=v", PlainSeal.REFUSED);
            tags(before + "=", PlainSeal.REFUSED);
            tags(before + "a=v", at + 1);
            tags(before + "abcdefg=v", at + 1);
            tags(before + "abcdefgh=v", at + 1);
            tags(before + "abcdefgh=", at + 1);
            tags(before + "abcdefghi=v", PlainSeal.REFUSED);
            tags(before + "abcdefghi=", PlainSeal.REFUSED);
            tags(before + "abcdefghijklmnop=v", PlainSeal.REFUSED);
        }
        value(told("abcdefgh=v", 1), "abcdefgh", "v");
    }

    private static void tagIsOfSmallLetters() {
        Check.sentence("Terms: each TAG ... small letters");
        for (int b = 0; b < 256; b++) {
            boolean small = b >= 'a' && b <= 'z';
            boolean leftOut = b == ' ' || b == '\t' || b == '\n';
            String text = String.valueOf((char) b);
            tags(text + "=v", small ? 1 : PlainSeal.REFUSED);
            // An = here begins what is behind, and what is left out leaves the others.
            tags("x" + text + "x=v", small || leftOut || b == '=' ? 1 : PlainSeal.REFUSED);
            tags("abcdefg" + text + "=v", small || leftOut || b == '=' ? 1 : PlainSeal.REFUSED);
        }
    }

    private static void tagHasAnEqualSign() {
        Check.sentence("Terms: each TAG ... =");
        tags("a", PlainSeal.REFUSED);
        tags("a;", PlainSeal.REFUSED);
        tags("abcdefgh", PlainSeal.REFUSED);
        tags("a;b=c", PlainSeal.REFUSED);
        tags("b=c;a", PlainSeal.REFUSED);
        tags("b=c;a;", PlainSeal.REFUSED);
        tags("b=c;a;d=e", PlainSeal.REFUSED);
        tags("a:b", PlainSeal.REFUSED);
    }

    private static void equalSignsMayBeBehind() {
        Check.sentence("Terms: what is behind (= may be in it)");
        Check check = told("a==;b=x=y;c====;d=e=f=;g==;", 5);
        value(check, "a", "=");
        value(check, "b", "x=y");
        value(check, "c", "===");
        value(check, "d", "e=f=");
        value(check, "g", "=");
        none(check, "e");
        none(check, "x");
        // The same letters behind an = are not a second TAG.
        value(told("a=a=a", 1), "a", "a=a");
    }

    private static void perhapsNothingIsBehind() {
        Check.sentence("Terms: what is behind (perhaps nothing)");
        for (String text : new String[] {"a=", "a=;", "a= \n\t", "a= ;"}) {
            value(told(text, 1).markOut(), "a", "");
        }
        Check check = told("a=;b=;c=", 3).markOut();
        value(check, "a", "");
        value(check, "b", "");
        value(check, "c", "");
    }

    private static void atLeastOne() {
        Check.sentence("Terms: TAGS: at least one");
        for (String text : new String[] {"", " ", "\t", "\n", " \t\n ", ";", " ; "}) {
            tags(text, PlainSeal.REFUSED);
        }
        tags("a=", 1);
    }

    private static void atMostForty() {
        Check.sentence("Terms: TAGS: at most 40");
        for (int count = 1; count <= 45; count++) {
            int want = count <= 40 ? count : PlainSeal.REFUSED;
            tags(many(count), want);
            tags(many(count) + ";", want);
            tags(many(count) + ";;", PlainSeal.REFUSED);
        }
        tags(many(40) + ";wrong", PlainSeal.REFUSED);
        tags(many(60), PlainSeal.REFUSED);
        Check check = told(many(40) + ";", 40);
        for (int i : new int[] {0, 1, 25, 26, 38, 39}) {
            value(check, letters(i), String.valueOf(i));
        }
        none(check, letters(40));
    }

    private static void noTwoOfTheSameLetters() {
        Check.sentence("Terms: TAGS: no two of the same letters");
        tags("a=b;a=b", PlainSeal.REFUSED);
        tags("a=;a=", PlainSeal.REFUSED);
        tags("a=b;c=d;a=e", PlainSeal.REFUSED);
        tags("c=d;a=b;a=e", PlainSeal.REFUSED);
        tags("abcdefgh=1;abcdefgh=2", PlainSeal.REFUSED);
        tags("abcdefgh=1;abcdefgi=2", 2);
        tags("abcdefgh=1;bbcdefgh=2", 2);
        tags("a=1;aa=1;aaa=1;aaaa=1", 4);
        tags("aaaa=1;aaa=1;aa=1;a=1", 4);
        tags("ab=1;ba=1", 2);
        for (int i = 0; i < 39; i++) {
            tags(many(39) + ";" + letters(i) + "=x", PlainSeal.REFUSED);
        }
    }

    private static Check longestValue(String value) {
        Check check = told("a=" + value, 1);
        Check.due("tag() of the longest", check.put("a").seal.tag(), value.length());
        return check;
    }

    private static void tagsFillTheTape() {
        Check.sentence("Promises 8 and 9: TAGS of a full TAPE");
        String value = "xyz\u00ff=".repeat(399) + "end";
        Check.due("the longest value", Check.longOut(() -> longestValue(value)), value);
        tags("a=" + "x".repeat(1997) + ";", 1);
        tags("a=" + "x".repeat(1995) + ";b=", 2);
        tags("a=" + "x".repeat(1996) + ";b", PlainSeal.REFUSED);
        tags("a=" + " ".repeat(1998), 1);
        tags(" ".repeat(2000), PlainSeal.REFUSED);
        tags(";".repeat(2000), PlainSeal.REFUSED);
        tags("a".repeat(2000), PlainSeal.REFUSED);
        value(told("a=" + "x".repeat(1994) + ";b=c", 2), "b", "c");
    }

    private static void tagIsNoneWithoutTags() {
        Check.sentence("Promise 9: NONE if there is none: no TAGS told");
        none(new Check(), "");
        none(new Check(), "a");
        none(new Check(), "a".repeat(2000));
    }

    private static void tagIsNoneIfThereIsNone() {
        Check.sentence("Promise 9: NONE if there is none");
        Check check = told("ab=x;cde=ab;abcdefgh=y=z", 3);
        for (String other : new String[] {"", "a", "b", "abc", "cd", "de", "cdef", "x", "y", "z", "abcdefg", "abcdefghi", "bcdefgh"}) {
            none(check, other);
        }
        none(check, "ab".repeat(1000));
    }

    private static void lettersAreComparedByteForByte() {
        Check.sentence("Promise 9: the TAG whose letters the TAPE is, byte for byte");
        Check check = told("ab=x", 1);
        for (String other : new String[] {"AB", "Ab", "aB", " ab", "ab ", "a b", "ab\n", "\tab", "ab=", "ab=x", "ab;", ";ab", "ab\0", "\u00e1b", "a\u00e2"}) {
            none(check, other);
        }
        value(check, "ab", "x");
        Check low = told("q=x", 1);
        Check high = told("q=x", 1);
        for (int b = 0; b < 256; b++) {
            Check half = b < 128 ? low : high;
            Check.due("tag() of byte " + b, half.put(String.valueOf((char) b)).seal.tag(), b == 'q' ? 1 : PlainSeal.NONE);
        }
    }

    private static void valueComesByteForByte() {
        Check.sentence("Promise 9: OUT becomes what is behind = ... byte for byte");
        String value = Check.ALL_BYTES.replace(";", "").replace(" ", "").replace("\t", "").replace("\n", "");
        value(told("a=1;b=" + value + ";c=3", 3), "b", value);
        value(told("b=ABC def", 1), "b", "ABCdef");
    }

    private static void tagMayBeAskedAgain() {
        Check.sentence("Promise 9: OUT becomes it: the TAGS stay");
        Check check = told("a=1;b=22;c=", 3);
        for (int round = 0; round < 5; round++) {
            value(check, "a", "1");
            value(check, "c", "");
            value(check, "b", "22");
            none(check, "d");
        }
    }
}
