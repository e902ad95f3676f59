import java.io.IOException;
import java.lang.reflect.InvocationTargetException;
import java.lang.reflect.Method;
import java.nio.file.Files;
import java.nio.file.Path;
import java.util.ArrayList;
import java.util.List;
import java.util.Set;
import java.util.TreeSet;
import java.util.regex.Matcher;
import java.util.regex.Pattern;

/** Makes the calls of README.md's example, and compares the answers that README.md tells. */
public final class ReadmeTest {
    private static final Path README = Path.of("README.md");
    private static final String FIRST = "ArcKeeper x = new ArcKeeper();";
    private static final Pattern CALL =
            Pattern.compile("x\\.(\\w+)\\((.*)\\);\\s*// (?:-> (\\S+)|throws (\\w+))(?:\\s.*)?");
    private static final Pattern FILE = Pattern.compile("(?:\\.\\./|src/|\\.ci/)[\\w./-]*\\w");

    private ReadmeTest() {}

    public static void main(String[] args) throws IOException {
        String text = Files.readString(README);
        Set<String> called = makeCalls(example(text));
        for (Method method : ArcKeeper.class.getDeclaredMethods()) {
            boolean isNeeded = List.of("addKind", "addField", "addFunction", "addLine", "begin", "step", "state",
                    "result", "countOf", "printAt", "deathAt").contains(method.getName());
            if (isNeeded) {
                Tries.due("the example calls " + method.getName(), called.contains(method.getName()), true);
            }
        }
        lookAtFiles(text);
        lookAtTests(text);
        Tries.end("ReadmeTest");
    }

    /** The lines of the one example, without empty ones and those that are comments alone. */
    private static List<String> example(String text) {
        String[] blocks = text.split("(?m)^```.*$", -1);
        Tries.due("one example", blocks.length, 3);
        List<String> lines = new ArrayList<>();
        for (String line : blocks[1].split("\n")) {
            if (!line.isBlank() && !line.startsWith("//")) {
                lines.add(line.strip());
            }
        }
        return lines;
    }

    /** Every line behind the first must be a call with its answer: a line that can't be read is not as due. */
    private static Set<String> makeCalls(List<String> lines) {
        Set<String> called = new TreeSet<>();
        Tries.due("first line", lines.get(0), FIRST);
        ArcKeeper x = new ArcKeeper();
        for (String line : lines.subList(1, lines.size())) {
            Matcher parts = CALL.matcher(line);
            boolean isRead = parts.matches();
            Tries.due("'" + line + "' is a call with its answer", isRead, true);
            if (isRead) {
                String want = parts.group(3) != null ? parts.group(3) : "throws " + parts.group(4);
                Tries.due(line, answer(x, parts.group(1), parts.group(2).split(", *")), want);
                called.add(parts.group(1));
            }
        }
        return called;
    }

    private static String answer(ArcKeeper x, String name, String[] words) {
        for (Method method : ArcKeeper.class.getDeclaredMethods()) {
            if (method.getName().equals(name)) {
                return answer(x, method, words);
            }
        }
        return "no such method";
    }

    private static String answer(ArcKeeper x, Method method, String[] words) {
        Class<?>[] types = method.getParameterTypes();
        int given = words.length == 1 && words[0].isEmpty() ? 0 : words.length;
        if (given != types.length) {
            return "another number of arguments";
        }
        Object[] arguments = new Object[types.length];
        for (int i = 0; i < types.length; i++) {
            arguments[i] = argument(types[i], words[i]);
        }
        try {
            return told(method.invoke(x, arguments));
        } catch (InvocationTargetException thrown) {
            return "throws " + thrown.getCause().getClass().getSimpleName();
        } catch (IllegalAccessException | IllegalArgumentException wrong) {
            return wrong.toString();
        }
    }

    /** An argument as its type wants it written; null, which no call takes, if it is written otherwise. */
    private static Object argument(Class<?> type, String word) {
        if (type == int.class && word.matches("-?\\d+")) {
            return Integer.parseInt(word);
        }
        if (type == boolean.class && word.matches("true|false")) {
            return Boolean.parseBoolean(word);
        }
        if (type == char.class && word.matches("'.'")) {
            return word.charAt(1);
        }
        return null;
    }

    private static String told(Object answer) {
        return answer instanceof Character ? "'" + answer + "'" : String.valueOf(answer);
    }

    private static void lookAtFiles(String text) {
        Matcher files = FILE.matcher(text);
        while (files.find()) {
            Tries.due(files.group() + " is there", Files.exists(Path.of(files.group())), true);
        }
        Tries.due("it tells how to run all tests", text.contains("bash .ci/run"), true);
        Tries.due("it tells how to run one", text.contains("java -ea -cp build/own ThriftSentencesTest"), true);
    }

    /** Each test of the project is told of, by its own name or as one of those of sentences. */
    private static void lookAtTests(String text) throws IOException {
        try (var files = Files.list(Path.of("src", "test", "java"))) {
            for (Path file : (Iterable<Path>) files::iterator) {
                String name = file.getFileName().toString().replace(".java", "");
                if (name.endsWith("Test") && !name.endsWith("SentencesTest")) {
                    Tries.due(name + " is told of", text.contains("`" + name + "`"), true);
                }
            }
        }
    }
}
