import java.lang.reflect.Constructor;
import java.lang.reflect.Field;
import java.lang.reflect.Member;
import java.lang.reflect.Method;
import java.lang.reflect.Modifier;
import java.util.Set;
import java.util.TreeSet;

/** The public face is the document's, and no other member can be seen from outside (LANGUAGE.md, rule 1). */
public final class FaceTest {
    private static final Set<String> FACE = Set.of(
        "public FieldDesk()",
        "public boolean FieldDesk.type(long,int)",
        "public int FieldDesk.read()",
        "public int FieldDesk.fields()",
        "public int FieldDesk.sort(int)",
        "public long FieldDesk.number(int)",
        "public boolean FieldDesk.begin(int)",
        "public boolean FieldDesk.add(long)",
        "public int FieldDesk.end()",
        "public int FieldDesk.byteOf(int)",
        "public boolean FieldDesk.copy()");

    private static final Set<String> seen = new TreeSet<>();

    public static void main(String[] args) {
        for (Constructor<?> c : FieldDesk.class.getDeclaredConstructors()) {
            note(c, c.toString());
        }
        for (Method m : FieldDesk.class.getDeclaredMethods()) {
            note(m, m.toString());
        }
        for (Field f : FieldDesk.class.getDeclaredFields()) {
            note(f, f.toString());
        }
        Due due = new Due();
        due.is("the face", seen.toString(), new TreeSet<>(FACE).toString());
        due.is("final", Modifier.isFinal(FieldDesk.class.getModifiers()), true);
        due.is("public", Modifier.isPublic(FieldDesk.class.getModifiers()), true);
        due.is("a class above it", FieldDesk.class.getSuperclass().getName(), "java.lang.Object");
        due.is("interfaces of it", FieldDesk.class.getInterfaces().length, 0);
        due.is("package", FieldDesk.class.getPackageName(), "");
        askClassesInside(due);
        askPrivateNames(due);
        due.finish();
    }

    private static void note(Member member, String words) {
        if (!Modifier.isPrivate(member.getModifiers()) && !member.isSynthetic()) {
            seen.add(words);
        }
    }

    private static void askClassesInside(Due due) {
        for (Class<?> inside : FieldDesk.class.getDeclaredClasses()) {
            int modifiers = inside.getModifiers();
            due.is(inside + " is static", Modifier.isStatic(modifiers), true);
            due.is(inside + " is seen", Modifier.isPublic(modifiers) || Modifier.isProtected(modifiers), false);
        }
    }

    private static void askPrivateNames(Due due) {
        Set<String> publicNames = new TreeSet<>();
        for (Method m : FieldDesk.class.getDeclaredMethods()) {
            if (Modifier.isPublic(m.getModifiers())) {
                publicNames.add(m.getName());
            }
        }
        for (Method m : FieldDesk.class.getDeclaredMethods()) {
            boolean isPrivate = Modifier.isPrivate(m.getModifiers());
            due.is(m + " bears a public name", isPrivate && publicNames.contains(m.getName()), false);
        }
    }
}
