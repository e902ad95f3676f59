import java.io.IOException;
import java.lang.reflect.Method;
import java.nio.file.Files;
import java.nio.file.Path;
import java.util.BitSet;
import java.util.Map;
import java.util.TreeMap;

/** Each sentence of the document is quoted by a test, and what the tests quote stands in the document. */
public final class DocumentTest {
    private static final Path DOCUMENT = Path.of("..", "shared", "DOC.md");
    private static final Class<?>[] TESTS = {KindsSentencesTest.class, FunctionsSentencesTest.class,
        TasksSentencesTest.class, ObjectsSentencesTest.class, LinesSentencesTest.class, RunsSentencesTest.class,
        ThriftSentencesTest.class, RefusedSentencesTest.class};

    private DocumentTest() {}

    public static void main(String[] args) throws IOException {
        if (!Files.exists(DOCUMENT)) {
            System.out.println("DocumentTest: there is no " + DOCUMENT + " to compare with");
            return;
        }
        Map<Integer, String> sections = sections(Files.readString(DOCUMENT));
        Tries.due("sections", sections.size(), 44);
        Map<Integer, BitSet> quoted = new TreeMap<>();
        for (int promise : sections.keySet()) {
            quoted.put(promise, new BitSet());
        }
        for (Class<?> test : TESTS) {
            for (Method method : test.getDeclaredMethods()) {
                Says says = method.getAnnotation(Says.class);
                if (says != null) {
                    lookAt(method, says, sections, quoted);
                }
            }
        }
        for (int promise : sections.keySet()) {
            Tries.due("of promise " + promise + " no test quotes", left(sections.get(promise), quoted.get(promise)), "");
        }
        Tries.end("DocumentTest");
    }

    /** What the document says of 'Terms', at 0, and of each promise, without what is no sentence. */
    private static Map<Integer, String> sections(String document) {
        Map<Integer, String> sections = new TreeMap<>();
        for (String section : document.split("\n## ")) {
            int from = section.indexOf('\n') + 1;
            if (section.startsWith("Terms")) {
                String text = section.substring(from, section.indexOf("Ahead of the calls"));
                sections.put(0, text.replace("It is not thread-safe.", " "));
            } else if (section.startsWith("Promise ")) {
                int number = Integer.parseInt(section.substring(8, section.indexOf(':')));
                int behindSignature = section.indexOf("`: ", from) + 3;
                String text = section.substring(behindSignature).split("\n## ")[0];
                sections.put(number, text.replaceAll("(?m)^- ", "  "));
            }
        }
        return sections;
    }

    private static void lookAt(Method method, Says says, Map<Integer, String> sections, Map<Integer, BitSet> quoted) {
        String section = sections.get(says.promise());
        for (String words : says.words()) {
            int at = section == null ? -1 : section.indexOf(words);
            Tries.due(method.getName() + " quotes '" + words + "'", at >= 0, true);
            for (; at >= 0; at = section.indexOf(words, at + 1)) {
                quoted.get(says.promise()).set(at, at + words.length());
            }
        }
    }

    private static String left(String section, BitSet quoted) {
        StringBuilder left = new StringBuilder();
        for (int i = 0; i < section.length(); i++) {
            if (!quoted.get(i)) {
                left.append(section.charAt(i));
            }
        }
        return left.toString().trim().replaceAll("\\s+", " ");
    }
}
