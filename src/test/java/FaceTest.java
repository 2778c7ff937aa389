import java.lang.reflect.Constructor;
import java.lang.reflect.Field;
import java.lang.reflect.Member;
import java.lang.reflect.Method;
import java.lang.reflect.Modifier;
import java.util.Arrays;
import java.util.Set;
import java.util.TreeSet;

/** The public face: what the document lists, and no other member that can be seen from outside. */
public final class FaceTest {
    private static final String[] FACE = {
        "NONE", "BAD", "FULL", "NOT", "SizeForms()",
        "limit(int,int)", "sign(int)", "wipe()", "number(int,long)", "text()", "link(int,int,int)",
        "told(int,int)", "label()", "put(int)", "unit(int,int,int)", "key(int,int)", "choice(int)",
        "widen()", "of(int,int)", "out(int)", "member(boolean,int,int)", "check(int)", "count(int)"
    };

    public static void main(String[] args) throws Exception {
        Due due = new Due("FaceTest");
        due.same("NONE", SizeForms.NONE, -1);
        due.same("BAD", SizeForms.BAD, -2);
        due.same("FULL", SizeForms.FULL, -3);
        due.same("NOT", SizeForms.NOT, -4);
        due.same("modifiers", SizeForms.class.getModifiers(), Modifier.PUBLIC | Modifier.FINAL);

        Set<String> seen = seenFromOutside();
        Set<String> face = new TreeSet<>(Arrays.asList(FACE));
        due.same("the face " + face + " and what is seen " + seen, face.equals(seen) ? 1 : 0, 1);

        Class<?>[] thrown = SizeForms.class.getMethod("out", int.class).getExceptionTypes();
        due.same("what out throws", Arrays.asList(thrown).equals(Arrays.asList(
                IllegalStateException.class, ArrayIndexOutOfBoundsException.class)) ? 1 : 0, 1);
        due.end();
    }

    private static Set<String> seenFromOutside() {
        Set<String> seen = new TreeSet<>();
        for (Field field : SizeForms.class.getDeclaredFields()) {
            addIfSeen(seen, field, field.getName());
        }
        for (Constructor<?> constructor : SizeForms.class.getDeclaredConstructors()) {
            addIfSeen(seen, constructor, "SizeForms" + parameters(constructor.getParameterTypes()));
        }
        for (Method method : SizeForms.class.getDeclaredMethods()) {
            addIfSeen(seen, method, method.getName() + parameters(method.getParameterTypes()));
        }
        return seen;
    }

    private static void addIfSeen(Set<String> seen, Member member, String text) {
        if (!Modifier.isPrivate(member.getModifiers())) {
            seen.add(Modifier.isPublic(member.getModifiers()) ? text : "not public: " + text);
        }
    }

    private static String parameters(Class<?>[] types) {
        StringBuilder text = new StringBuilder("(");
        for (Class<?> type : types) {
            text.append(text.length() > 1 ? "," : "").append(type.getName());
        }
        return text.append(")").toString();
    }
}
