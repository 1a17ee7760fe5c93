import java.io.IOException;
import java.nio.file.Files;
import java.nio.file.Path;
import java.util.ArrayList;
import java.util.List;

/**
 * The sentences of the document, each with the tests that quote it. A test is told by the place of its
 * sentence, "Terms" or "Promise 7", and by the words of that sentence that it is about. Words that do not
 * stand there, and a sentence that no test quotes, are not as due.
 */
final class Sentences {
    private final List<String> places = new ArrayList<>();
    private final List<String> sentences = new ArrayList<>();
    private final List<Integer> tests = new ArrayList<>();

    Sentences(String document) throws IOException {
        String place = "";
        for (String line : Files.readAllLines(Path.of(document))) {
            if (line.startsWith("## ")) {
                place = line.substring(3).replaceAll(":.*", "");
            } else if (isTested(place, line)) {
                addSentences(place, line);
            }
        }
    }

    /** All of the terms and the promises, but for headings and for how the interface's source is parted. */
    private static boolean isTested(String place, String line) {
        boolean isPlace = place.equals("Terms") || place.startsWith("Promise ");
        boolean isHeading = line.isBlank() || line.startsWith("#") || line.equals("Values, offers");
        return isPlace && !isHeading && !line.startsWith("Ahead of the calls ")
            || line.startsWith("An object is used ");
    }

    private void addSentences(String place, String line) {
        boolean isDeclaration = place.startsWith("Promise ") && line.startsWith("`");
        String text = isDeclaration ? line.substring(line.indexOf("`: ") + 3) : line;
        for (String sentence : text.split("(?<=\\.) (?=[A-Z])| (?=@throws )")) {
            places.add(place);
            sentences.add(sentence);
            tests.add(0);
        }
    }

    void test(String place, String words, Runnable test) {
        Check.about(place + ", '" + words + "'");
        int standing = 0;
        for (int i = 0; i < sentences.size(); i++) {
            if (places.get(i).equals(place) && sentences.get(i).contains(words)) {
                tests.set(i, tests.get(i) + 1);
                standing++;
            }
        }
        Check.same("how many sentences hold these words", 1, standing);
        int before = Check.count();
        RuntimeException thrown = Check.thrownBy(test);
        if (thrown != null) {
            Check.fail("the test ended by " + thrown + " in " + thrown.getStackTrace()[0]);
        }
        Check.same("the test checks something", true, Check.count() > before);
        Check.about("");
    }

    void end() {
        for (int i = 0; i < sentences.size(); i++) {
            Check.same("a test quotes " + places.get(i) + ", '" + sentences.get(i) + "'", true, tests.get(i) > 0);
        }
    }
}
