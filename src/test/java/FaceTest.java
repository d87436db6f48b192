import java.io.IOException;
import java.lang.reflect.Constructor;
import java.lang.reflect.Field;
import java.lang.reflect.Member;
import java.lang.reflect.Method;
import java.lang.reflect.Modifier;
import java.nio.file.Files;
import java.nio.file.Path;
import java.util.ArrayList;
import java.util.Arrays;
import java.util.HashSet;
import java.util.List;
import java.util.Set;
import java.util.TreeSet;

/** The public face: every constant, constructor and method of the document, and no other member. */
public final class FaceTest {
    private static final Path DOCUMENT = Path.of("../shared/DOC.md");
    private static final Path PROGRAM = Path.of("src/main/java/DropFour.java");
    private static final String[] FACE = {
        "int DRAW", "int NONE", "DropFour(int,int)",
        "int drop(int) IllegalArgumentException IllegalStateException",
        "int back() IllegalStateException",
        "int turn()",
        "int winner()",
        "int at(int,int) IndexOutOfBoundsException",
        "int empty()",
        "int open(int) IllegalArgumentException",
        "int threats(int) IllegalArgumentException",
        "int value() IllegalStateException",
        "int valueOf(int) IllegalArgumentException IllegalStateException",
        "int best() IllegalStateException",
        "boolean beats() IllegalStateException",
    };

    private final Check check = new Check();

    public static void main(String[] args) throws IOException {
        new FaceTest().all();
    }

    private void all() throws IOException {
        check.same("NONE", DropFour.NONE, -1);
        check.same("DRAW", DropFour.DRAW, 2);
        check.same("public and final", DropFour.class.getModifiers(), Modifier.PUBLIC | Modifier.FINAL);
        check.same("the face", seenMembers(), new TreeSet<>(Arrays.asList(FACE)));
        check.same("private methods that bear a public one's name", privateNamesakes(), Set.of());
        for (Class<?> inside : DropFour.class.getDeclaredClasses()) {
            int modifiers = inside.getModifiers();
            check.same(inside.getName() + " is static", Modifier.isStatic(modifiers), true);
            check.same(inside.getName() + " is hidden",
                    Modifier.isPublic(modifiers) || Modifier.isProtected(modifiers), false);
        }
        if (Files.isReadable(DOCUMENT)) {
            compareWithDocument(Files.readString(DOCUMENT), Files.readString(PROGRAM));
        } else {
            System.out.println(DOCUMENT + " is not here: the face is not compared with it");
        }
        check.end("FaceTest");
    }

    /** Each line of the face stands in the program as it is written, and above a promise it stands once more. */
    private void compareWithDocument(String document, String program) {
        List<String> face = faceOf(document);
        check.same("members of the document's face", face.size(), FACE.length);
        check.same("promises", document.split("(?m)^## Promise ").length - 1, FACE.length - 2);
        for (String line : face) {
            String words = line.substring(0, line.length() - 1);
            boolean isConstant = words.contains("=");
            String inProgram = "    " + (isConstant ? line : words + " {") + "\n";
            check.same("the program has " + line, program.contains(inProgram), true);
            String inPromise = "`" + words.replaceFirst("^public ", "") + "`: ";
            check.same("a promise tells of " + line, document.contains(inPromise), !isConstant);
        }
    }

    /** The lines between the class's first line and its last one. */
    private static List<String> faceOf(String document) {
        List<String> face = new ArrayList<>();
        String block = document.split("```java\n")[1].split("```")[0];
        for (String line : block.split("\n")) {
            if (line.startsWith("    ")) {
                face.add(line.trim());
            }
        }
        return face;
    }

    private static Set<String> seenMembers() {
        Set<String> seen = new TreeSet<>();
        for (Field field : DropFour.class.getDeclaredFields()) {
            if (isSeen(field)) {
                boolean constant = Modifier.isStatic(field.getModifiers()) && Modifier.isFinal(field.getModifiers());
                seen.add((constant ? "" : "changeable ") + field.getType() + " " + field.getName());
            }
        }
        for (Constructor<?> constructor : DropFour.class.getDeclaredConstructors()) {
            if (isSeen(constructor)) {
                seen.add("DropFour" + list(constructor.getParameterTypes()));
            }
        }
        for (Method method : DropFour.class.getDeclaredMethods()) {
            if (isSeen(method)) {
                StringBuilder text = new StringBuilder();
                text.append(method.getReturnType()).append(' ').append(method.getName());
                text.append(list(method.getParameterTypes()));
                for (Class<?> thrown : method.getExceptionTypes()) {
                    text.append(' ').append(thrown.getSimpleName());
                }
                seen.add(text.toString());
            }
        }
        return seen;
    }

    private static String list(Class<?>[] types) {
        return Arrays.toString(types).replace("[", "(").replace("]", ")").replace(" ", "");
    }

    private static boolean isSeen(Member member) {
        return !Modifier.isPrivate(member.getModifiers()) && !member.isSynthetic();
    }

    private static Set<String> privateNamesakes() {
        Set<String> open = new HashSet<>();
        Set<String> hidden = new HashSet<>();
        for (Method method : DropFour.class.getDeclaredMethods()) {
            (Modifier.isPublic(method.getModifiers()) ? open : hidden).add(method.getName());
        }
        for (Class<?> inside : DropFour.class.getDeclaredClasses()) {
            for (Method method : inside.getDeclaredMethods()) {
                hidden.add(method.getName());
            }
        }
        hidden.retainAll(open);
        return hidden;
    }
}
