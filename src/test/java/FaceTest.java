import java.lang.reflect.Constructor;
import java.lang.reflect.Field;
import java.lang.reflect.Member;
import java.lang.reflect.Method;
import java.lang.reflect.Modifier;
import java.util.ArrayList;
import java.util.Collections;
import java.util.List;

/** The public face of the document, and nothing else that is not private. */
public final class FaceTest {
    private static final String FACE = String.join("\n",
        "public int PlainSeal.decode(int)",
        "public int PlainSeal.digest()",
        "public int PlainSeal.end(int)",
        "public int PlainSeal.feed(int,int,int,int,int)",
        "public int PlainSeal.message()",
        "public int PlainSeal.named()",
        "public int PlainSeal.octet(int)",
        "public int PlainSeal.plainBody(boolean)",
        "public int PlainSeal.plainField(int,boolean)",
        "public int PlainSeal.power()",
        "public int PlainSeal.tag()",
        "public int PlainSeal.tags()",
        "public static final int PlainSeal.FULL",
        "public static final int PlainSeal.NONE",
        "public static final int PlainSeal.REFUSED");

    public static void main(String[] args) {
        Check.due("REFUSED", PlainSeal.REFUSED, -1);
        Check.due("NONE", PlainSeal.NONE, -2);
        Check.due("FULL", PlainSeal.FULL, -3);
        Check.due("class modifiers", PlainSeal.class.getModifiers(), Modifier.PUBLIC | Modifier.FINAL);
        Constructor<?>[] constructors = PlainSeal.class.getDeclaredConstructors();
        Check.due("constructors", constructors.length, 1);
        Check.due("the constructor", constructors[0].toString(), "public PlainSeal()");

        List<String> seen = new ArrayList<>();
        for (Method method : PlainSeal.class.getDeclaredMethods()) {
            addIfSeen(method, seen);
        }
        for (Field field : PlainSeal.class.getDeclaredFields()) {
            addIfSeen(field, seen);
        }
        Collections.sort(seen);
        Check.due("members", String.join("\n", seen), FACE);
        for (Class<?> inside : PlainSeal.class.getDeclaredClasses()) {
            Check.due(inside + " is static", Modifier.isStatic(inside.getModifiers()) ? 1 : 0, 1);
        }
        Check.finish();
    }

    private static void addIfSeen(Member member, List<String> seen) {
        if (!Modifier.isPrivate(member.getModifiers())) {
            seen.add(member.toString());
        }
    }
}
