import java.lang.reflect.Constructor;
import java.lang.reflect.Field;
import java.lang.reflect.Member;
import java.lang.reflect.Method;
import java.lang.reflect.Modifier;
import java.util.Arrays;
import java.util.HashSet;
import java.util.Set;
import java.util.TreeSet;

/** The public face: every constant, constructor and method of the document, and no other member. */
public final class FaceTest {
    private static final String[] FACE = {
        "int DRAW", "int NONE", "DropFour(int,int)",
        "int drop(int) IllegalArgumentException IllegalStateException",
        "int back() IllegalStateException",
        "int turn()",
        "int winner()",
        "int at(int,int) IndexOutOfBoundsException",
        "int empty()",
        "int open(int) IllegalArgumentException",
        "int threats(int) IllegalArgumentException",
        "int value() IllegalStateException",
        "int valueOf(int) IllegalArgumentException IllegalStateException",
        "int best() IllegalStateException",
        "boolean beats() IllegalStateException",
    };

    private final Check check = new Check();

    public static void main(String[] args) {
        new FaceTest().all();
    }

    private void all() {
        check.same("NONE", DropFour.NONE, -1);
        check.same("DRAW", DropFour.DRAW, 2);
        check.same("public and final", DropFour.class.getModifiers(), Modifier.PUBLIC | Modifier.FINAL);
        check.same("the face", seenMembers(), new TreeSet<>(Arrays.asList(FACE)));
        check.same("private methods that bear a public one's name", privateNamesakes(), Set.of());
        for (Class<?> inside : DropFour.class.getDeclaredClasses()) {
            int modifiers = inside.getModifiers();
            check.same(inside.getName() + " is static", Modifier.isStatic(modifiers), true);
            check.same(inside.getName() + " is hidden",
                    Modifier.isPublic(modifiers) || Modifier.isProtected(modifiers), false);
        }
        check.end("FaceTest");
    }

    private static Set<String> seenMembers() {
        Set<String> seen = new TreeSet<>();
        for (Field field : DropFour.class.getDeclaredFields()) {
            if (isSeen(field)) {
                boolean constant = Modifier.isStatic(field.getModifiers()) && Modifier.isFinal(field.getModifiers());
                seen.add((constant ? "" : "changeable ") + field.getType() + " " + field.getName());
            }
        }
        for (Constructor<?> constructor : DropFour.class.getDeclaredConstructors()) {
            if (isSeen(constructor)) {
                seen.add("DropFour" + list(constructor.getParameterTypes()));
            }
        }
        for (Method method : DropFour.class.getDeclaredMethods()) {
            if (isSeen(method)) {
                StringBuilder text = new StringBuilder();
                text.append(method.getReturnType()).append(' ').append(method.getName());
                text.append(list(method.getParameterTypes()));
                for (Class<?> thrown : method.getExceptionTypes()) {
                    text.append(' ').append(thrown.getSimpleName());
                }
                seen.add(text.toString());
            }
        }
        return seen;
    }

    private static String list(Class<?>[] types) {
        return Arrays.toString(types).replace("[", "(").replace("]", ")").replace(" ", "");
    }

    private static boolean isSeen(Member member) {
        return !Modifier.isPrivate(member.getModifiers()) && !member.isSynthetic();
    }

    private static Set<String> privateNamesakes() {
        Set<String> open = new HashSet<>();
        Set<String> hidden = new HashSet<>();
        for (Method method : DropFour.class.getDeclaredMethods()) {
            (Modifier.isPublic(method.getModifiers()) ? open : hidden).add(method.getName());
        }
        for (Class<?> inside : DropFour.class.getDeclaredClasses()) {
            for (Method method : inside.getDeclaredMethods()) {
                hidden.add(method.getName());
            }
        }
        hidden.retainAll(open);
        return hidden;
    }
}
