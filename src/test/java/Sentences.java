import java.io.IOException;
import java.nio.file.Files;
import java.nio.file.Path;
import java.util.ArrayList;
import java.util.LinkedHashSet;
import java.util.List;
import java.util.Set;

/**
 * The sentences of a part of the document, and the test that each of them has. A sentence is named by its place
 * ("Terms", or the number of its promise) and by its words. A sentence without a test, a test without its sentence, and
 * a test that checks nothing are faults.
 */
final class Sentences {
    static final String TERMS = "Terms";

    private static final Path DOCUMENT = Path.of("../shared/DOC.md");
    private static final String PROMISE = "## Promise ";

    private final String test;
    private final Set<String> untested = new LinkedHashSet<>();

    private Sentences(String test) {
        this.test = test;
    }

    static Sentences ofTerms(String test) throws IOException {
        Sentences sentences = new Sentences(test);
        for (String sentence : all()) {
            if (sentence.startsWith(TERMS)) {
                sentences.untested.add(sentence);
            }
        }
        return sentences;
    }

    static Sentences ofPromises(String test, int first, int last) throws IOException {
        Sentences sentences = new Sentences(test);
        for (String sentence : all()) {
            String place = sentence.substring(0, sentence.indexOf(':'));
            if (!place.equals(TERMS) && Integer.parseInt(place) >= first && Integer.parseInt(place) <= last) {
                sentences.untested.add(sentence);
            }
        }
        return sentences;
    }

    /** Runs the test of one sentence of the terms. */
    void test(String words, Runnable run) {
        test(TERMS, words, run);
    }

    /** Runs the test of one sentence of a promise. */
    void test(int promise, String words, Runnable run) {
        test(String.valueOf(promise), words, run);
    }

    private void test(String place, String words, Runnable run) {
        String sentence = place + ": " + words;
        Checks.holds("a sentence of the document, once: " + sentence, untested.remove(sentence));
        int before = Checks.done();
        Checks.begin(sentence);
        run.run();
        Checks.begin("");
        Checks.holds("something is checked: " + sentence, Checks.done() > before);
    }

    void close() {
        for (String sentence : untested) {
            Checks.holds("there is a test: " + sentence, false);
        }
        Checks.close(test);
    }

    private static List<String> all() throws IOException {
        List<String> found = new ArrayList<>();
        String place = "";
        for (String line : Files.readAllLines(DOCUMENT)) {
            if (line.startsWith("## ")) {
                place = placeUnder(line);
            } else if (place.equals(TERMS)) {
                addTerms(found, line);
            } else if (!place.isEmpty() && !line.isEmpty()) {
                found.add(place + ": " + line.replaceAll("^`.*?`: ", ""));
            }
        }
        return found;
    }

    private static String placeUnder(String heading) {
        if (heading.startsWith(PROMISE)) {
            return heading.substring(PROMISE.length(), heading.indexOf(':'));
        }
        return heading.equals("## Terms") || heading.equals("## What it is") ? TERMS : "";
    }

    /** A line of the terms holds several sentences. */
    private static void addTerms(List<String> found, String line) {
        for (String sentence : line.split("(?<=\\.|\\.\\)) (?=[A-Z(])")) {
            if (promisesSomething(sentence)) {
                found.add(TERMS + ": " + sentence);
            }
        }
    }

    /** One word is a title; the other two tell what the document is about and how the face is laid out. */
    private static boolean promisesSomething(String sentence) {
        return sentence.indexOf(' ') > 0 && !sentence.startsWith("A network of sensors with buyers")
            && !sentence.startsWith("Ahead of the calls");
    }
}
