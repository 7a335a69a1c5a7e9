import java.io.IOException;
import java.lang.reflect.Method;
import java.nio.file.Files;
import java.nio.file.Path;
import java.util.ArrayList;
import java.util.List;

/** The sentences that tests name stand in the document, and no part of a promise's section is without a test. */
public final class SentencesTest {
    private static final Path DOCUMENT = Path.of("../shared/DOC.md");
    private static final Class<?>[] TESTS = {LimitsTest.class, RunningTest.class, TellingTest.class, OctetTest.class};

    public static void main(String[] args) throws IOException {
        if (!Files.exists(DOCUMENT)) {
            System.out.println("no document beside the project: its sentences are not looked at");
            return;
        }
        String text = Files.readString(DOCUMENT).replaceAll("\\s+", " ");
        List<Sentence> named = new ArrayList<>();
        for (Class<?> tests : TESTS) {
            for (Method m : Sentences.testsOf(tests)) {
                named.add(m.getAnnotation(Sentence.class));
            }
        }
        for (Sentence s : named) {
            Check.due("\"" + s.says() + "\" stands in the document, that", text.contains(s.says()), true);
        }
        for (int promise = 1; promise <= 16; promise++) {
            for (String part : partsOf(text, promise)) {
                Check.due("promise " + promise + ", \"" + part + "\" has a test, that", isNamed(named, promise, part), true);
            }
        }
        Check.end();
    }

    /** The parts of a promise's section behind its method's name, cut at ; and at the end of sentences. */
    private static List<String> partsOf(String text, int promise) {
        int section = text.indexOf("## Promise " + promise + ":");
        int begin = text.indexOf("`: ", section) + 3;
        int end = text.indexOf(" ## ", begin);
        List<String> parts = new ArrayList<>();
        for (String part : text.substring(begin, end).split("; |(?<=[^.])\\.( |$)")) {
            if (!part.isBlank()) {
                parts.add(part);
            }
        }
        Check.due("promise " + promise + " has parts", parts.isEmpty(), false);
        return parts;
    }

    private static boolean isNamed(List<Sentence> named, int promise, String part) {
        for (Sentence s : named) {
            if (s.promise() == promise && (s.says().contains(part) || part.contains(s.says()))) {
                return true;
            }
        }
        return false;
    }
}
