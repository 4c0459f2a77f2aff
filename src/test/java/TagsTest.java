/** Promises 8 and 9: tags and tag. */
public final class TagsTest {
    public static void main(String[] args) {
        countsTags();
        refusesWhatIsNone();
        tellsValues();
        refusedKeepsTheTagsBefore();
        newTagsTakeThePlace();
        Check.finish();
    }

    private static void tags(String text, int want) {
        Check.due("tags() of " + Check.shown(text), new Check().put(text).seal.tags(), want);
    }

    /** Tags a to z, then aa to zz with twice the same letter. */
    private static String manyTags(int count) {
        StringBuilder text = new StringBuilder();
        for (int i = 0; i < count; i++) {
            String letter = String.valueOf((char) ('a' + i % 26));
            text.append(letter.repeat(1 + i / 26)).append("=").append(i).append(";");
        }
        return text.toString();
    }

    private static void countsTags() {
        tags("a=", 1);
        tags("a=b", 1);
        tags("a=;", 1);
        tags("a=b;c=d", 2);
        tags("a=b;c=d;", 2);
        tags("a=b;c=d; \n\t", 2);
        tags("a=b; \n\t;", PlainSeal.REFUSED);
        tags("a==", 1);
        tags("a=b=c", 1);
        tags("a=b=c;b=", 2);
        tags(" a\n =\tb ; a b = c ", 2);
        tags("abcdefgh=x", 1);
        tags("a b c d e f g h=x", 1);
        tags("a=1;ab=1;aba=1", 3);
        tags("a=\0\u00ff\r", 1);
        tags("a=A:b\nc", 1);
        tags(manyTags(40), 40);
        String without = manyTags(40);
        tags(without.substring(0, without.length() - 1), 40);
        tags("a=" + "x".repeat(1998), 1);
    }

    private static void refusesWhatIsNone() {
        tags("", PlainSeal.REFUSED);
        tags(" \n\t", PlainSeal.REFUSED);
        tags(";", PlainSeal.REFUSED);
        tags("=", PlainSeal.REFUSED);
        tags("=b", PlainSeal.REFUSED);
        tags("a", PlainSeal.REFUSED);
        tags("a;", PlainSeal.REFUSED);
        tags(";a=b", PlainSeal.REFUSED);
        tags("a=b;;", PlainSeal.REFUSED);
        tags("a=b;;c=d", PlainSeal.REFUSED);
        tags("a=b;c", PlainSeal.REFUSED);
        tags("A=b", PlainSeal.REFUSED);
        tags("aB=b", PlainSeal.REFUSED);
        tags("a1=b", PlainSeal.REFUSED);
        tags("a-=b", PlainSeal.REFUSED);
        tags("a\r=b", PlainSeal.REFUSED);
        tags("`=b", PlainSeal.REFUSED);
        tags("{=b", PlainSeal.REFUSED);
        tags("abcdefghi=x", PlainSeal.REFUSED);
        tags("a=b;a=c", PlainSeal.REFUSED);
        tags("a=b;c=d;a=b", PlainSeal.REFUSED);
        tags("ab=b;a b=c", PlainSeal.REFUSED);
        tags("abcdefgh=b;abcdefgh=c;", PlainSeal.REFUSED);
        tags(manyTags(41), PlainSeal.REFUSED);
        tags(manyTags(40) + ";", PlainSeal.REFUSED);
        String twice = manyTags(39) + "a=x";
        tags(twice, PlainSeal.REFUSED);
    }

    private static void value(Check check, String letters, String want) {
        String what = "tag() of " + Check.shown(letters);
        Check.due(what, check.put(letters).seal.tag(), want.length());
        Check.due(what, check.out(), want);
    }

    private static void noValue(Check check, String letters) {
        check.markOut();
        Check.due("tag() of " + Check.shown(letters), check.put(letters).seal.tag(), PlainSeal.NONE);
        check.outIsMark("behind tag() of " + Check.shown(letters));
    }

    private static void tellsValues() {
        Check check = new Check();
        check.put("v = 1; a=x y\tz\n w;\n bh = Ab=c==; e=; abcdefgh=\0\u00ff\r:; z=end ;").seal.tags();
        value(check, "v", "1");
        value(check, "a", "xyzw");
        value(check, "bh", "Ab=c==");
        value(check, "e", "");
        value(check, "abcdefgh", "\0\u00ff\r:");
        value(check, "z", "end");
        value(check, "v", "1");
        noValues(check);
        Check many = new Check();
        many.put(manyTags(40)).seal.tags();
        value(many, "a", "0");
        value(many, "z", "25");
        value(many, "aa", "26");
        value(many, "nn", "39");
        noValue(many, "oo");
        Check.due("the longest value", Check.longOut(TagsTest::longestValue), "x".repeat(1998));
    }

    private static void noValues(Check check) {
        for (String none : new String[] {"", "b", "bhx", "bh=Ab", "bh=", "V", " v", "v ", "v\n", "abcdefg", "abcdefghi", "x", "w", ";"}) {
            noValue(check, none);
        }
    }

    private static Check longestValue() {
        Check check = new Check();
        check.put("a=" + "x".repeat(1998)).seal.tags();
        Check.due("tag() of the longest value", check.put("a").seal.tag(), 1998);
        return check;
    }

    private static void refusedKeepsTheTagsBefore() {
        Check check = new Check();
        check.put("a=1;b=2").seal.tags();
        check.markOut();
        Check.due("tags refused", check.put("a=3;c=4;a=5").seal.tags(), PlainSeal.REFUSED);
        Check.due("tags refused", check.put("").seal.tags(), PlainSeal.REFUSED);
        check.outIsMark("behind refused tags");
        value(check, "a", "1");
        value(check, "b", "2");
        noValue(check, "c");
    }

    private static void newTagsTakeThePlace() {
        Check check = new Check();
        check.put("a=1;b=2;c=3").seal.tags();
        check.markOut();
        Check.due("tags", check.put("b=x").seal.tags(), 1);
        check.outIsMark("behind tags");
        value(check, "b", "x");
        noValue(check, "a");
        noValue(check, "c");
    }
}
