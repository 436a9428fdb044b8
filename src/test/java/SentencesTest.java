import java.io.IOException;
import java.lang.reflect.Method;
import java.nio.file.Files;
import java.nio.file.Path;
import java.util.HashSet;
import java.util.List;
import java.util.Set;

/** What the tests of the edges quote stands in the document, and no promise goes without one. */
public final class SentencesTest {
    private static final Due DUE = new Due("SentencesTest");
    private static final Path DOCUMENT = Path.of("../shared/DOC.md");
    private static final int PROMISES = 51;

    public static void main(String[] args) throws IOException {
        List<Method> tests = Edges.all();
        eachPromiseHasATest(tests);
        noNameIsGivenTwice(tests);
        if (Files.exists(DOCUMENT)) {
            eachTestQuotesTheDocument(tests, onOneLine(Files.readString(DOCUMENT)));
        } else {
            // The program is no worse where the document is not at hand.
            System.out.println("SentencesTest: there is no " + DOCUMENT + ", so no quote was looked up");
        }
        DUE.end();
    }

    private static void eachPromiseHasATest(List<Method> tests) {
        Set<Integer> tested = new HashSet<>();
        for (Method test : tests) {
            tested.add(test.getAnnotation(Says.class).promise());
        }
        for (int promise = 0; promise <= PROMISES; promise++) {
            DUE.yes("promise " + promise + " has a test by name", tested.contains(promise));
        }
    }

    private static void noNameIsGivenTwice(List<Method> tests) {
        Set<String> names = new HashSet<>();
        for (Method test : tests) {
            DUE.yes(test.getName() + " is the name of one test alone", names.add(test.getName()));
        }
    }

    private static void eachTestQuotesTheDocument(List<Method> tests, String document) {
        for (Method test : tests) {
            Says says = test.getAnnotation(Says.class);
            DUE.yes(test.getName() + " quotes promise " + says.promise(),
                section(document, says.promise()).contains(says.value()));
        }
    }

    private static String onOneLine(String text) {
        return text.replaceAll("\\s+", " ");
    }

    private static String section(String document, int promise) {
        int from = promise == 0 ? 0 : document.indexOf("## Promise " + promise + ":");
        int until = document.indexOf(promise == PROMISES ? "## Not promised" : "## Promise " + (promise + 1) + ":");
        return from < 0 || until < from ? "" : document.substring(from, until);
    }
}
