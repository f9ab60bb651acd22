import java.lang.reflect.Constructor;
import java.lang.reflect.Executable;
import java.lang.reflect.Field;
import java.lang.reflect.Member;
import java.lang.reflect.Method;
import java.lang.reflect.Modifier;
import java.util.Arrays;
import java.util.Set;
import java.util.TreeSet;
import java.util.stream.Collectors;

/** The public face: the class, its numbers, its constructor and its methods, and nothing else that can be seen. */
public final class FaceTest {
    private static final Check CHECK = new Check();

    private static final Set<String> FACE = new TreeSet<>(Set.of(
            "int NONE", "int BAD", "int FULL",
            "FormatDump()",
            "int type(int, int, int, int, int) IllegalStateException",
            "int erase()",
            "int number(long) IllegalStateException",
            "int text() IllegalStateException",
            "int none()",
            "void room(int) IllegalArgumentException",
            "int print()",
            "int odd()",
            "int feed(int, int, int, int, int) IllegalArgumentException IllegalStateException",
            "int cut(int) IllegalArgumentException",
            "int words(int, char, int, boolean) IllegalArgumentException",
            "int pairs(int, int, boolean) IllegalArgumentException",
            "int back(int, int) IllegalArgumentException",
            "int patch(int, int) IndexOutOfBoundsException IllegalArgumentException",
            "int trim(int) IllegalArgumentException",
            "int place()",
            "int output(int)",
            "int data(int)"));

    public static void main(String[] args) {
        numbers();
        members();
        modifiers();
        classesInside();
        namesOfPrivateMethods();
        CHECK.end();
    }

    private static void numbers() {
        CHECK.same("NONE", FormatDump.NONE, -1);
        CHECK.same("BAD", FormatDump.BAD, -2);
        CHECK.same("FULL", FormatDump.FULL, -3);
    }

    private static void members() {
        Set<String> seen = new TreeSet<>();
        for (Field field : FormatDump.class.getDeclaredFields()) {
            if (canBeSeen(field)) {
                seen.add(field.getType().getSimpleName() + " " + field.getName());
            }
        }
        for (Constructor<?> made : FormatDump.class.getDeclaredConstructors()) {
            if (canBeSeen(made)) {
                seen.add("FormatDump" + takesAndThrows(made));
            }
        }
        for (Method method : FormatDump.class.getDeclaredMethods()) {
            if (canBeSeen(method)) {
                seen.add(method.getReturnType().getSimpleName() + " " + method.getName() + takesAndThrows(method));
            }
        }
        CHECK.same("the members", seen, FACE);
    }

    private static boolean canBeSeen(Member member) {
        return !member.isSynthetic() && !Modifier.isPrivate(member.getModifiers());
    }

    private static String takesAndThrows(Executable call) {
        String thrown = names(call.getExceptionTypes(), " ");
        return "(" + names(call.getParameterTypes(), ", ") + ")" + (thrown.isEmpty() ? "" : " " + thrown);
    }

    private static String names(Class<?>[] types, String between) {
        return Arrays.stream(types).map(Class::getSimpleName).collect(Collectors.joining(between));
    }

    private static void modifiers() {
        int whole = FormatDump.class.getModifiers();
        CHECK.same("public final class", Modifier.toString(whole), "public final");
        CHECK.same("its parent", FormatDump.class.getSuperclass(), Object.class);
        CHECK.same("its interfaces", FormatDump.class.getInterfaces().length, 0);
        CHECK.same("its package", FormatDump.class.getPackageName(), "");
        for (Field field : FormatDump.class.getFields()) {
            CHECK.same(field.getName(), Modifier.toString(field.getModifiers()), "public static final");
        }
        for (Method method : FormatDump.class.getDeclaredMethods()) {
            if (canBeSeen(method)) {
                CHECK.same(method.getName(), Modifier.toString(method.getModifiers()), "public");
            }
        }
        CHECK.same("constructor", Modifier.toString(FormatDump.class.getConstructors()[0].getModifiers()), "public");
    }

    private static void classesInside() {
        for (Class<?> inside : FormatDump.class.getDeclaredClasses()) {
            int modifiers = inside.getModifiers();
            CHECK.same(inside.getName() + " is static", Modifier.isStatic(modifiers), true);
            CHECK.same(inside.getName() + " is not for others",
                    Modifier.isPublic(modifiers) || Modifier.isProtected(modifiers), false);
        }
    }

    private static void namesOfPrivateMethods() {
        Set<String> open = new TreeSet<>();
        for (Method method : FormatDump.class.getMethods()) {
            open.add(method.getName());
        }
        for (Method method : FormatDump.class.getDeclaredMethods()) {
            if (!canBeSeen(method)) {
                CHECK.same(method.getName() + " is a public name too", open.contains(method.getName()), false);
            }
        }
        for (Class<?> inside : FormatDump.class.getDeclaredClasses()) {
            for (Method method : inside.getDeclaredMethods()) {
                CHECK.same(method + " is a public name too", open.contains(method.getName()), false);
            }
        }
    }
}
