import java.lang.reflect.Constructor;
import java.lang.reflect.Field;
import java.lang.reflect.Member;
import java.lang.reflect.Method;
import java.lang.reflect.Modifier;
import java.util.Arrays;
import java.util.Set;
import java.util.TreeSet;

/** "The public face": what the document writes out, as it writes it, and nothing beside. */
public final class FaceTest {
    private static final String[] FACE = {
        "public static final int RescanDesk.NONE",
        "public RescanDesk()",
        "public boolean RescanDesk.type(char)",
        "public int RescanDesk.clear()",
        "public int RescanDesk.run(int) throws java.lang.IllegalArgumentException",
        "public char RescanDesk.output(int,int) throws "
            + "java.lang.IllegalArgumentException,java.lang.IndexOutOfBoundsException",
        "public int RescanDesk.count(int)"};

    public static void main(String[] args) {
        Checks checks = new Checks();
        theClassIsPublicAndFinal(checks);
        noMemberBesideTheFaceCanBeSeen(checks);
        noPrivateMethodBearsAPublicName(checks);
        noStaticFieldCanChange(checks);
        checks.finish();
    }

    private static void theClassIsPublicAndFinal(Checks checks) {
        checks.same("the class", Modifier.toString(RescanDesk.class.getModifiers()), "public final");
        checks.same("its package", RescanDesk.class.getPackageName(), "");
        checks.same("NONE", RescanDesk.NONE, -1);
    }

    private static void noMemberBesideTheFaceCanBeSeen(Checks checks) {
        Set<String> seen = new TreeSet<>();
        for (Field field : RescanDesk.class.getDeclaredFields()) {
            if (canBeSeen(field)) {
                seen.add(field.toString());
            }
        }
        for (Constructor<?> constructor : RescanDesk.class.getDeclaredConstructors()) {
            if (canBeSeen(constructor)) {
                seen.add(constructor.toString());
            }
        }
        for (Method method : RescanDesk.class.getDeclaredMethods()) {
            if (canBeSeen(method)) {
                seen.add(method.toString());
            }
        }
        checks.same("the face", seen.toString(), new TreeSet<>(Arrays.asList(FACE)).toString());
    }

    private static boolean canBeSeen(Member member) {
        return !Modifier.isPrivate(member.getModifiers()) && !member.isSynthetic();
    }

    /** LANGUAGE.md, rule 1. */
    private static void noPrivateMethodBearsAPublicName(Checks checks) {
        Set<String> names = Set.of("type", "clear", "run", "output", "count");
        for (Method method : RescanDesk.class.getDeclaredMethods()) {
            boolean shared = names.contains(method.getName()) && !canBeSeen(method);
            checks.same("a private " + method.getName(), shared ? 1 : 0, 0);
        }
        for (Class<?> inside : RescanDesk.class.getDeclaredClasses()) {
            checks.same(inside + " is static", Modifier.isStatic(inside.getModifiers()) ? 1 : 0, 1);
            for (Method method : inside.getDeclaredMethods()) {
                checks.same(method.toString(), names.contains(method.getName()) ? 1 : 0, 0);
            }
        }
    }

    /** LANGUAGE.md, rule 5. */
    private static void noStaticFieldCanChange(Checks checks) {
        checkStaticFields(checks, RescanDesk.class);
        for (Class<?> inside : RescanDesk.class.getDeclaredClasses()) {
            checkStaticFields(checks, inside);
        }
    }

    private static void checkStaticFields(Checks checks, Class<?> owner) {
        for (Field field : owner.getDeclaredFields()) {
            int modifiers = field.getModifiers();
            if (Modifier.isStatic(modifiers) && !field.isSynthetic()) {
                checks.same(field + " is final", Modifier.isFinal(modifiers) ? 1 : 0, 1);
            }
        }
    }
}
