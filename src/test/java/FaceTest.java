import java.lang.reflect.Constructor;
import java.lang.reflect.Executable;
import java.lang.reflect.Field;
import java.lang.reflect.Method;
import java.lang.reflect.Modifier;
import java.util.Arrays;
import java.util.Set;
import java.util.TreeSet;
import java.util.stream.Collectors;

/** The class's face is the document's and nothing else (LANGUAGE.md, rules 1 and 5). */
public final class FaceTest {
    private static final Set<String> FACE = new TreeSet<>(Set.of(
            "GrowForms()",
            "int line() IllegalStateException",
            "int form(int, int, int) IllegalArgumentException IllegalStateException",
            "void aim(int, int, int) IndexOutOfBoundsException",
            "int clear()",
            "int settle() IllegalStateException UnsupportedOperationException",
            "int told(int, int) IllegalStateException IndexOutOfBoundsException IllegalArgumentException",
            "long value(int) IllegalStateException IndexOutOfBoundsException",
            "int wrong() IllegalStateException"));

    public static void main(String[] args) {
        Due.is(Modifier.isPublic(GrowForms.class.getModifiers()), "the class is public");
        Due.is(Modifier.isFinal(GrowForms.class.getModifiers()), "the class is final");
        Due.is(seen().equals(FACE), "the face is " + FACE + ", not " + seen());
        for (Method m : GrowForms.class.getDeclaredMethods()) {
            Due.is(Modifier.isPublic(m.getModifiers()) || !isOnFace(m.getName()), "no private method is named " + m.getName());
        }
        for (Field f : GrowForms.class.getDeclaredFields()) {
            Due.is(Modifier.isPrivate(f.getModifiers()), f.getName() + " is private");
            Due.is(!Modifier.isStatic(f.getModifiers()) || Modifier.isFinal(f.getModifiers()), f.getName() + " is final");
        }
        Due.end("the face is as due");
    }

    private static boolean isOnFace(String name) {
        return FACE.stream().anyMatch(member -> member.contains(" " + name + "("));
    }

    /** All that is not private, so that a package-visible member is seen too. */
    private static Set<String> seen() {
        Set<String> members = new TreeSet<>();
        for (Constructor<?> c : GrowForms.class.getDeclaredConstructors()) {
            members.add(visibility(c) + text("GrowForms", c));
        }
        for (Method m : GrowForms.class.getDeclaredMethods()) {
            if (!Modifier.isPrivate(m.getModifiers())) {
                members.add(visibility(m) + text(m.getReturnType() + " " + m.getName(), m));
            }
        }
        return members;
    }

    private static String visibility(Executable e) {
        return Modifier.isPublic(e.getModifiers()) && !Modifier.isStatic(e.getModifiers()) ? "" : "not of the face: ";
    }

    private static String text(String head, Executable e) {
        String parameters = names(e.getParameterTypes(), ", ");
        String thrown = names(e.getExceptionTypes(), " ");
        return (head + "(" + parameters + ") " + thrown).trim();
    }

    private static String names(Class<?>[] types, String between) {
        return Arrays.stream(types).map(Class::getSimpleName).collect(Collectors.joining(between));
    }
}
