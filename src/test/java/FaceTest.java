import java.lang.reflect.Constructor;
import java.lang.reflect.Field;
import java.lang.reflect.Method;
import java.lang.reflect.Modifier;
import java.util.Arrays;
import java.util.Set;
import java.util.TreeSet;

/** The public face of the document, and rule 1 of LANGUAGE.md: no other member can be seen. */
public final class FaceTest {
    private static final Set<String> DUE = new TreeSet<>(Arrays.asList(
            "int NONE", "VersionedText(int)", "boolean type(char)", "void scrap()",
            "boolean insert(int)", "boolean remove(int,int)", "boolean replace(int,int)",
            "boolean undo()", "boolean redo()", "int steps(int)", "void seal()",
            "boolean guard(int)", "int snapshot()", "boolean release(int)", "int unit(int,int)",
            "int count(int,int)", "int place(int,int,int)", "int item(int,int,int)",
            "boolean same(int,int)", "int find(int,int)", "int end()"));

    public static void main(String[] args) {
        Checks checks = new Checks("FaceTest");
        checks.due("NONE", VersionedText.NONE, -1);
        checks.due("the class is public and final",
                VersionedText.class.getModifiers() == (Modifier.PUBLIC | Modifier.FINAL), true);
        checks.due("the members that can be seen", seenMembers().toString(), DUE.toString());
        for (Class<?> inside : VersionedText.class.getDeclaredClasses()) {
            checks.due(inside + " is static", Modifier.isStatic(inside.getModifiers()), true);
            checks.due(inside + " is hidden", isOpen(inside.getModifiers()), false);
        }
        for (Method method : VersionedText.class.getDeclaredMethods()) {
            checks.due(method + " is private but named like a public one",
                    Modifier.isPrivate(method.getModifiers()) && isNamedInFace(method), false);
        }
        checks.close();
    }

    private static Set<String> seenMembers() {
        Set<String> seen = new TreeSet<>();
        for (Field field : VersionedText.class.getDeclaredFields()) {
            if (!Modifier.isPrivate(field.getModifiers())) {
                seen.add(field.getType().getSimpleName() + " " + field.getName());
            }
        }
        for (Constructor<?> maker : VersionedText.class.getDeclaredConstructors()) {
            seen.add("VersionedText" + listed(maker.getParameterTypes()));
        }
        for (Method method : VersionedText.class.getDeclaredMethods()) {
            if (!Modifier.isPrivate(method.getModifiers())) {
                seen.add(method.getReturnType().getSimpleName() + " " + method.getName()
                        + listed(method.getParameterTypes()));
            }
        }
        return seen;
    }

    private static String listed(Class<?>[] types) {
        StringBuilder list = new StringBuilder("(");
        for (Class<?> type : types) {
            list.append(list.length() > 1 ? "," : "").append(type.getSimpleName());
        }
        return list.append(')').toString();
    }

    private static boolean isOpen(int modifiers) {
        return Modifier.isPublic(modifiers) || Modifier.isProtected(modifiers);
    }

    private static boolean isNamedInFace(Method method) {
        for (String member : DUE) {
            if (member.contains(" " + method.getName() + "(")) {
                return true;
            }
        }
        return false;
    }
}
