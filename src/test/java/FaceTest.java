import java.lang.reflect.Constructor;
import java.lang.reflect.Field;
import java.lang.reflect.Method;
import java.lang.reflect.Modifier;
import java.nio.file.Files;
import java.nio.file.Path;
import java.util.ArrayList;
import java.util.Arrays;
import java.util.List;
import java.util.Set;
import java.util.TreeSet;

/** The public face of the document to the letter, and the rules of LANGUAGE.md that can be read off the class. */
public final class FaceTest {
    private FaceTest() {}

    public static void main(String[] args) throws Exception {
        Set<String> want = promisedFace();
        Set<String> got = new TreeSet<>();
        Set<String> names = new TreeSet<>();
        for (Method m : ArcKeeper.class.getDeclaredMethods()) {
            if (Modifier.isPublic(m.getModifiers())) {
                got.add(signature(m));
                names.add(m.getName());
            } else {
                Tries.due("private " + m.getName(), Modifier.isPrivate(m.getModifiers()), true);
            }
        }
        Tries.due("face", got, want);
        for (Method m : ArcKeeper.class.getDeclaredMethods()) {
            if (!Modifier.isPublic(m.getModifiers())) {
                Tries.due("no name of a public one: " + m.getName(), names.contains(m.getName()), false);
            }
        }
        Tries.due("public and final", Modifier.isFinal(ArcKeeper.class.getModifiers()), true);
        Constructor<?>[] constructors = ArcKeeper.class.getDeclaredConstructors();
        Tries.due("one constructor", constructors.length, 1);
        Tries.due("without parameters", constructors[0].getParameterCount(), 0);
        Tries.due("at most some twelve classes", ArcKeeper.class.getDeclaredClasses().length < 12, true);
        lookAtFields(ArcKeeper.class);
        for (Class<?> inside : ArcKeeper.class.getDeclaredClasses()) {
            Tries.due(inside.getName() + " is static", Modifier.isStatic(inside.getModifiers()), true);
            lookAtFields(inside);
            lookAtMethods(inside, names);
        }
        lookAtText();
        Tries.end("FaceTest");
    }

    private static void lookAtFields(Class<?> c) {
        int own = 0;
        for (Field f : c.getDeclaredFields()) {
            if (Modifier.isStatic(f.getModifiers())) {
                Tries.due(f + " is final", Modifier.isFinal(f.getModifiers()), true);
            } else {
                own++;
            }
            Tries.due(f + " is private", Modifier.isPrivate(f.getModifiers()), true);
        }
        Tries.due(c.getName() + " has at most twenty fields", own <= 20, true);
    }

    private static void lookAtMethods(Class<?> c, Set<String> names) {
        for (Method m : c.getDeclaredMethods()) {
            Tries.due(m + " bears no name of the face", names.contains(m.getName()), false);
            Tries.due(m + " takes at most seven", m.getParameterCount() <= 7, true);
        }
    }

    private static String signature(Method m) {
        List<String> parameters = new ArrayList<>();
        for (Class<?> type : m.getParameterTypes()) {
            parameters.add(type.getSimpleName());
        }
        List<String> thrown = new ArrayList<>();
        for (Class<?> type : m.getExceptionTypes()) {
            thrown.add(type.getSimpleName());
        }
        return m.getReturnType().getSimpleName() + " " + m.getName() + parameters + thrown;
    }

    /** The methods that the section 'The public face' of the document prints. */
    private static Set<String> promisedFace() throws Exception {
        Set<String> face = new TreeSet<>();
        for (String line : Files.readAllLines(Path.of("..", "shared", "DOC.md"))) {
            if (!line.startsWith("    public ") || line.contains("ArcKeeper(")) {
                continue;
            }
            String[] head = line.trim().substring("public ".length()).split("[()]");
            List<String> parameters = new ArrayList<>();
            for (String parameter : head[1].isEmpty() ? new String[0] : head[1].split(", ")) {
                parameters.add(parameter.split(" ")[0]);
            }
            String rest = head[2].replace(";", "").replace(" throws ", "");
            List<String> thrown = rest.isEmpty() ? List.of() : Arrays.asList(rest.split(", "));
            face.add(head[0] + parameters + thrown);
        }
        return face;
    }

    /** Words that LANGUAGE.md leaves out. */
    private static void lookAtText() throws Exception {
        String text = Files.readString(Path.of("src", "main", "java", "ArcKeeper.java"));
        for (String word : new String[] {
            "->", "::", "catch", "finally", "synchronized", "assert ", "package ", "hashCode", "Exact(", "while (true)", "for (;;)"
        }) {
            Tries.due("no " + word, text.contains(word), false);
        }
        Tries.due("no sign beyond 127", text.chars().allMatch(c -> c < 128), true);
    }
}
