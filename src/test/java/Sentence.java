import java.io.IOException;
import java.io.UncheckedIOException;
import java.nio.file.Files;
import java.nio.file.Path;
import java.util.ArrayList;
import java.util.List;
import java.util.Map;
import java.util.Set;
import java.util.TreeMap;
import java.util.TreeSet;
import java.util.function.BiPredicate;
import java.util.regex.Pattern;

/**
 * The sentences of DOC.md. A test of BoundaryTest or OrdinaryTest quotes the one that it is about, under the
 * number of its promise; what it finds wrong is printed with both. At the end none may be left without a test.
 */
final class Sentence {
    private static final String TERMS = "Terms";
    private static final Map<String, List<String>> DOCUMENT = sections();

    /** Sentences of the terms that ask for nothing that a call could show. */
    private static final Pattern WITHOUT_CASE = Pattern.compile(
            "\\S+( \\S+)?\\.|Stations and roads\\.|It is not thread-safe\\.|The class finds .*|A winter post: .*"
            + "|Ahead of the calls .*");

    /** Words with which a sentence of a promise names a boundary. */
    private static final Pattern BOUNDARY = Pattern.compile("^Throws|\\bif\\b|initially|empty|negative|without"
            + "|counted from|may be the same|latest|which is kept|earlier one|nothing to undo");

    private static final Map<String, Set<String>> quoted = new TreeMap<>();
    private static final Set<String> tested = new TreeSet<>();
    private static int promise;
    private static String about = "";
    private static int checksBefore;

    private Sentence() {
    }

    /** Makes the tests one by one; one that ends with an exception is wrong, and the others are made all the same. */
    static void each(Runnable... tests) {
        for (Runnable test : tests) {
            try {
                test.run();
            } catch (RuntimeException e) {
                Due.is("the test ends", "no exception", e.toString());
            }
        }
    }

    /** The checks from here on are about these words of the promise. */
    static void of(int number, String words) {
        quote("Promise " + number, number, words);
    }

    /** The checks from here on are about these words of the terms, and belong to the promise. */
    static void ofTerms(int number, String words) {
        quote(TERMS, number, words);
    }

    /** The check is about these words of the terms, for the same promise; later ones are again about what they were. */
    static void meanwhile(String words, Runnable check) {
        String before = about;
        about(TERMS, promise, words);
        check.run();
        about = before;
        Due.about(about);
    }

    private static void quote(String section, int number, String words) {
        endLast();
        about(section, number, words);
        checksBefore = Due.checksSoFar();
    }

    private static void about(String section, int number, String words) {
        promise = number;
        about = "promise " + number + ", \"" + words + "\": ";
        Due.about(about);
        Due.is("stands under " + section, true, sentenceWith(section, words) != null);
        quoted.computeIfAbsent(section, key -> new TreeSet<>()).add(words);
        tested.add("Promise " + number + (words.equals(Refusal.NO_TRACE) ? " leaves no trace" : ""));
    }

    private static void endLast() {
        Due.is("there are checks", true, promise == 0 || Due.checksSoFar() > checksBefore);
    }

    private static String sentenceWith(String section, String words) {
        for (String sentence : DOCUMENT.getOrDefault(section, List.of())) {
            if (sentence.contains(words)) {
                return sentence;
            }
        }
        return null;
    }

    /** Every sentence that names a boundary, every promise and all of the terms must have been quoted. */
    static void endOfBoundaries() {
        endLast();
        Due.about("");
        int sentences = demandTests(Sentence::namesBoundary);
        for (Map.Entry<String, List<String>> section : DOCUMENT.entrySet()) {
            String name = section.getKey();
            Due.is(name + " has tests", true, name.equals(TERMS) || tested.contains(name));
            for (String sentence : section.getValue()) {
                boolean quiet = !sentence.startsWith("Throws") || tested.contains(name + " leaves no trace");
                Due.is("refused calls of " + name + " are looked at", true, quiet);
            }
        }
        Due.is("the document was read", true, DOCUMENT.size() == 61 && sentences > 120);
    }

    /** Every sentence of a promise that names no boundary must have been quoted. */
    static void endOfOrdinary() {
        endLast();
        Due.about("");
        int sentences = demandTests((name, sentence) -> !name.equals(TERMS) && !namesBoundary(name, sentence));
        Due.is("the document was read", true, DOCUMENT.size() == 61 && sentences > 140);
    }

    /** Returns how many sentences were asked for. */
    private static int demandTests(BiPredicate<String, String> asked) {
        int sentences = 0;
        for (Map.Entry<String, List<String>> section : DOCUMENT.entrySet()) {
            for (String sentence : section.getValue()) {
                if (asked.test(section.getKey(), sentence)) {
                    sentences++;
                    String what = "a test for: " + section.getKey() + ": " + sentence;
                    Due.is(what, true, isQuoted(section.getKey(), sentence));
                }
            }
        }
        return sentences;
    }

    private static boolean namesBoundary(String section, String sentence) {
        if (section.equals(TERMS)) {
            return !WITHOUT_CASE.matcher(sentence).matches();
        }
        return BOUNDARY.matcher(sentence).find();
    }

    private static boolean isQuoted(String section, String sentence) {
        return quoted.getOrDefault(section, Set.of()).stream().anyMatch(sentence::contains);
    }

    private static Map<String, List<String>> sections() {
        Map<String, List<String>> sections = new TreeMap<>();
        for (String section : text().split("(?m)^## ")) {
            int line = section.indexOf('\n');
            String head = section.substring(0, line).split(":")[0];
            if (head.equals("What it is") || head.equals(TERMS)) {
                sections.computeIfAbsent(TERMS, key -> new ArrayList<>()).addAll(sentences(section.substring(line)));
            } else if (head.startsWith("Promise ")) {
                sections.put(head, sentences(section.substring(line)));
            }
        }
        return sections;
    }

    private static List<String> sentences(String section) {
        List<String> sentences = new ArrayList<>();
        // A paragraph, or an entry of a list of arguments, holds whole sentences.
        for (String part : section.replaceAll("(?s)```.*?```", "").split("\n\\s*\n|\n(?=- )")) {
            String words = part.trim().replaceAll("\\s+", " ");
            if (!words.isEmpty()) {
                sentences.addAll(List.of(words.split("(?<=\\.) (?=[A-Z])")));
            }
        }
        return sentences;
    }

    private static String text() {
        try {
            return Files.readString(Path.of("../shared/DOC.md"));
        } catch (IOException e) {
            throw new UncheckedIOException(e);
        }
    }
}
