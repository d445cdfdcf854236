import java.io.IOException;
import java.lang.reflect.InvocationTargetException;
import java.lang.reflect.Method;
import java.nio.file.Files;
import java.nio.file.Path;
import java.util.ArrayList;
import java.util.Arrays;
import java.util.Comparator;
import java.util.HashSet;
import java.util.LinkedHashMap;
import java.util.List;
import java.util.Map;
import java.util.Set;

/**
 * Runs the tests of the single sentences of the document, and looks whether each sentence of its
 * terms and promises has one.
 */
public final class SentencesTest {
    private static final Path DOCUMENT = Path.of("../shared/DOC.md");
    private static final List<Class<?>> CLASSES = List.of(TermsSentences.class, BufferSentences.class,
            TemplateSentences.class, MergeSentences.class, EntrySentences.class, GuessSentences.class,
            KeepSentences.class);

    private final Map<String, List<String>> document = new LinkedHashMap<>();
    private final Set<String> held = new HashSet<>();
    private int tests;

    public static void main(String[] args) throws Exception {
        SentencesTest sentences = new SentencesTest();
        sentences.read();
        for (Class<?> each : CLASSES) {
            sentences.runAll(each);
        }
        Checks.begin("the document");
        sentences.dueAll();
        System.out.println(sentences.tests + " tests of " + sentences.held.size() + " sentences");
        System.exit(Checks.end());
    }

    private void read() throws IOException {
        List<String> section = new ArrayList<>();
        for (String line : Files.readAllLines(DOCUMENT)) {
            if (line.startsWith("## ")) {
                section = new ArrayList<>();
                document.put(line.substring(3).replaceAll(":.*", ""), section);
            } else if (!line.isBlank()) {
                section.addAll(List.of(line.strip().split("(?<=[.)]) (?=[A-Z(])")));
            }
        }
    }

    private void runAll(Class<?> each) throws Exception {
        Method[] methods = each.getDeclaredMethods();
        Arrays.sort(methods, Comparator.comparing(Method::getName));
        for (Method method : methods) {
            Holds holds = method.getAnnotation(Holds.class);
            if (holds != null) {
                Checks.begin(holds.at() + ", '" + holds.words() + "' (" + method.getName() + ")");
                run(method, holds);
            }
        }
    }

    private void run(Method method, Holds holds) throws Exception {
        String start = holds.at().replace(" ", "").toLowerCase();
        Checks.due("its name tells the promise", method.getName().matches(start + "[A-Z].*"), true);
        boolean found = false;
        for (String sentence : document.getOrDefault(holds.at(), List.of())) {
            if (sentence.contains(holds.words())) {
                found = true;
                held.add(holds.at() + ": " + sentence);
            }
        }
        Checks.due("its words stand in the document", found, true);
        int before = Checks.checksMade();
        try {
            method.invoke(null);
        } catch (InvocationTargetException thrown) {
            Checks.due("its end", String.valueOf(thrown.getCause()), Checks.NOTHING);
        }
        Checks.due("it asks something", Checks.checksMade() > before, true);
        tests++;
    }

    private void dueAll() {
        for (Map.Entry<String, List<String>> section : document.entrySet()) {
            String title = section.getKey();
            for (String sentence : section.getValue()) {
                boolean said = title.startsWith("Promise") || title.equals("Terms");
                if (said && !sentence.startsWith("Ahead of the calls ")) {
                    Checks.due("'" + title + ": " + sentence + "' has a test",
                            held.contains(title + ": " + sentence), true);
                }
            }
        }
    }
}
