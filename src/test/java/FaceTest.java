import java.lang.reflect.Constructor;
import java.lang.reflect.Field;
import java.lang.reflect.Member;
import java.lang.reflect.Method;
import java.lang.reflect.Modifier;
import java.util.ArrayList;
import java.util.Arrays;
import java.util.List;
import java.util.Set;
import java.util.TreeSet;

/** The class shows the document's face, and nothing beside it. */
public final class FaceTest {
    private static final Due DUE = new Due();

    private static final String[] FACE = {
        "int NONE", "SureCount()", "int race(int, int)", "int box()", "int paper(int, int) NoSuchElementException",
        "boolean lose(int, boolean) NoSuchElementException IllegalStateException", "boolean seal(long)",
        "int votes(int, int, int) NoSuchElementException", "boolean wins(int, int, int) NoSuchElementException",
        "int about(int, int) NoSuchElementException", "int draw(int) IllegalArgumentException",
        "int drawn(int) NoSuchElementException", "int waits()", "int pulled(int) NoSuchElementException",
        "boolean read(int, int, int) NoSuchElementException", "int reading(int, int) NoSuchElementException",
        "int risk(int) NoSuchElementException", "int taken(int) NoSuchElementException",
        "int taint(int, int) NoSuchElementException",
        "int need(int, int) NoSuchElementException IllegalArgumentException",
        "int count(int) NoSuchElementException",
    };

    public static void main(String[] args) {
        DUE.sentence("The public face", "public final class SureCount");
        DUE.is(new TreeSet<>(Arrays.asList(FACE)), "the face", FaceTest::shown);
        DUE.is(Modifier.PUBLIC | Modifier.FINAL, "the class's modifiers", () -> SureCount.class.getModifiers());
        DUE.is("[]", "members neither private nor public", FaceTest::halfShown);
        DUE.is("[]", "private methods that bear a public one's name", FaceTest::doubled);
        DUE.is("public static final", "NONE's modifiers", FaceTest::modifiersOfNone);
        DUE.end();
    }

    private static Set<String> shown() {
        Set<String> shown = new TreeSet<>();
        for (Field f : SureCount.class.getDeclaredFields()) {
            if (isShown(f)) {
                shown.add(f.getType().getSimpleName() + " " + f.getName());
            }
        }
        for (Constructor<?> c : SureCount.class.getDeclaredConstructors()) {
            if (isShown(c)) {
                shown.add("SureCount" + types("(", c.getParameterTypes(), ", ") + ")");
            }
        }
        for (Method m : SureCount.class.getDeclaredMethods()) {
            if (isShown(m)) {
                String thrown = types(" ", m.getExceptionTypes(), " ");
                shown.add(m.getReturnType().getSimpleName() + " " + m.getName()
                        + types("(", m.getParameterTypes(), ", ") + ")" + (thrown.isBlank() ? "" : thrown));
            }
        }
        return shown;
    }

    private static Set<String> halfShown() {
        List<Member> members = new ArrayList<>(Arrays.asList(SureCount.class.getDeclaredFields()));
        members.addAll(Arrays.asList(SureCount.class.getDeclaredConstructors()));
        members.addAll(Arrays.asList(SureCount.class.getDeclaredMethods()));
        Set<String> halfShown = new TreeSet<>();
        for (Member m : members) {
            if (isShown(m) && !Modifier.isPublic(m.getModifiers())) {
                halfShown.add(m.getName());
            }
        }
        return halfShown;
    }

    private static String modifiersOfNone() {
        for (Field f : SureCount.class.getDeclaredFields()) {
            if (f.getName().equals("NONE")) {
                return Modifier.toString(f.getModifiers());
            }
        }
        return "there is no NONE";
    }

    private static boolean isShown(Member m) {
        return !Modifier.isPrivate(m.getModifiers()) && !m.isSynthetic();
    }

    private static String types(String before, Class<?>[] types, String between) {
        StringBuilder text = new StringBuilder(before);
        for (int i = 0; i < types.length; i++) {
            text.append(i == 0 ? "" : between).append(types[i].getSimpleName());
        }
        return text.toString();
    }

    private static Set<String> doubled() {
        Set<String> faceNames = new TreeSet<>();
        for (Method m : SureCount.class.getDeclaredMethods()) {
            if (isShown(m)) {
                faceNames.add(m.getName());
            }
        }
        Set<String> doubled = new TreeSet<>();
        for (Method m : SureCount.class.getDeclaredMethods()) {
            if (!isShown(m) && faceNames.contains(m.getName())) {
                doubled.add(m.getName());
            }
        }
        return doubled;
    }
}
