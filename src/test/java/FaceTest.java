import java.lang.reflect.Constructor;
import java.lang.reflect.Field;
import java.lang.reflect.Member;
import java.lang.reflect.Method;
import java.lang.reflect.Modifier;
import java.util.Set;
import java.util.TreeSet;

/** The public face is the document's, and no other member can be seen from outside. */
public final class FaceTest {
    private static final Set<String> FACE = Set.of(
        "public FieldDesk()",
        "public boolean FieldDesk.type(long,int)",
        "public int FieldDesk.read()",
        "public int FieldDesk.fields()",
        "public int FieldDesk.sort(int)",
        "public long FieldDesk.number(int)",
        "public boolean FieldDesk.begin(int)",
        "public boolean FieldDesk.add(long)",
        "public int FieldDesk.end()",
        "public int FieldDesk.byteOf(int)",
        "public boolean FieldDesk.copy()");

    private static final Set<String> seen = new TreeSet<>();

    public static void main(String[] args) {
        for (Constructor<?> c : FieldDesk.class.getDeclaredConstructors()) {
            note(c, c.toString());
        }
        for (Method m : FieldDesk.class.getDeclaredMethods()) {
            note(m, m.toString());
        }
        for (Field f : FieldDesk.class.getDeclaredFields()) {
            note(f, f.toString());
        }
        Due due = new Due();
        due.is("the face", seen.toString(), new TreeSet<>(FACE).toString());
        due.is("final", Modifier.isFinal(FieldDesk.class.getModifiers()), true);
        due.is("public", Modifier.isPublic(FieldDesk.class.getModifiers()), true);
        due.finish();
    }

    private static void note(Member member, String words) {
        if (!Modifier.isPrivate(member.getModifiers()) && !member.isSynthetic()) {
            seen.add(words);
        }
    }
}
