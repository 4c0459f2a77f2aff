import java.lang.reflect.Constructor;
import java.lang.reflect.Field;
import java.lang.reflect.Member;
import java.lang.reflect.Method;
import java.lang.reflect.Modifier;
import java.util.ArrayList;
import java.util.Collections;
import java.util.List;

/** The public face of the document, and nothing else that is not private. */
public final class FaceTest {
    private static final String FACE =
        "FULL, NONE, REFUSED, decode, digest, end, feed, message, named, octet, plainBody, plainField, power, tag, tags";

    public static void main(String[] args) {
        Check.due("REFUSED", PlainSeal.REFUSED, -1);
        Check.due("NONE", PlainSeal.NONE, -2);
        Check.due("FULL", PlainSeal.FULL, -3);
        Check.due("class modifiers", PlainSeal.class.getModifiers(), Modifier.PUBLIC | Modifier.FINAL);
        Constructor<?>[] constructors = PlainSeal.class.getDeclaredConstructors();
        Check.due("constructors", constructors.length, 1);
        Check.due("public constructors", PlainSeal.class.getConstructors().length, 1);

        List<String> seen = new ArrayList<>();
        for (Method method : PlainSeal.class.getDeclaredMethods()) {
            addIfSeen(method, seen);
        }
        for (Field field : PlainSeal.class.getDeclaredFields()) {
            addIfSeen(field, seen);
        }
        Collections.sort(seen);
        Check.due("members", String.join(", ", seen), FACE);
        staticStateIsFinal(PlainSeal.class);
        for (Class<?> inside : PlainSeal.class.getDeclaredClasses()) {
            Check.due(inside + " is static", Modifier.isStatic(inside.getModifiers()) ? 1 : 0, 1);
            staticStateIsFinal(inside);
        }
        Check.finish();
    }

    private static void addIfSeen(Member member, List<String> seen) {
        if (!Modifier.isPrivate(member.getModifiers())) {
            seen.add(member.getName());
        }
    }

    private static void staticStateIsFinal(Class<?> type) {
        for (Field field : type.getDeclaredFields()) {
            boolean free = Modifier.isStatic(field.getModifiers()) && !Modifier.isFinal(field.getModifiers());
            Check.due(field + " is static and not final", free ? 1 : 0, 0);
        }
    }
}
