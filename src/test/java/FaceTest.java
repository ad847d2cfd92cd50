import java.lang.reflect.Constructor;
import java.lang.reflect.Field;
import java.lang.reflect.Member;
import java.lang.reflect.Method;
import java.lang.reflect.Modifier;
import java.util.Set;
import java.util.TreeSet;

/** The class shows just the face of the document. */
public final class FaceTest {
    private static final Set<String> FACE = Set.of(
            "public static final int DirectoryDesk.CLOSED",
            "public static final int DirectoryDesk.BAD",
            "public DirectoryDesk()",
            "public void DirectoryDesk.connect()",
            "public int DirectoryDesk.type(long,int)",
            "public int DirectoryDesk.handle()",
            "public int DirectoryDesk.answered()",
            "public long DirectoryDesk.answer(int)",
            "public int DirectoryDesk.entries()",
            "public int DirectoryDesk.entry(int)",
            "public int DirectoryDesk.pairType(int,int)",
            "public long DirectoryDesk.pairValue(int,int)",
            "public boolean DirectoryDesk.signed()",
            "public boolean DirectoryDesk.open()");

    public static void main(String[] args) {
        Checks checks = new Checks("FaceTest");
        Class<?> desk = DirectoryDesk.class;
        checks.same("public and final", Modifier.toString(desk.getModifiers()), "public final");
        checks.same("in no package", desk.getPackageName(), "");

        Set<String> seen = new TreeSet<>();
        for (Field field : desk.getDeclaredFields()) {
            keepVisible(seen, field, field.toString());
        }
        for (Constructor<?> constructor : desk.getDeclaredConstructors()) {
            keepVisible(seen, constructor, constructor.toString());
        }
        for (Method method : desk.getDeclaredMethods()) {
            keepVisible(seen, method, method.toString());
        }
        checks.same("visible members", seen, new TreeSet<>(FACE));

        for (Class<?> inside : desk.getDeclaredClasses()) {
            int modifiers = inside.getModifiers();
            checks.same(inside.getName() + " is static", Modifier.isStatic(modifiers), true);
            checks.same(inside.getName() + " is public", Modifier.isPublic(modifiers), false);
        }
        checks.same("CLOSED", DirectoryDesk.CLOSED, -1);
        checks.same("BAD", DirectoryDesk.BAD, -2);
        checks.end();
    }

    private static void keepVisible(Set<String> seen, Member member, String told) {
        if (!Modifier.isPrivate(member.getModifiers()) && !member.isSynthetic()) {
            seen.add(told);
        }
    }
}
