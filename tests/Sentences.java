import java.io.IOException;
import java.nio.file.Files;
import java.nio.file.Path;
import java.util.LinkedHashSet;
import java.util.Map;
import java.util.Set;
import java.util.TreeMap;
import java.util.regex.Matcher;
import java.util.regex.Pattern;

/**
 * The sentences of the document. Each test of an edge names the one that it is for, and at the end the
 * ones are told that name a bound or an exception and have no test.
 */
final class Sentences {
    /** What says nothing that could be broken by itself. */
    private static final Pattern PLAIN = Pattern.compile("- `\\w+`: (the (other )?(algebra|formula|variable|fact|word|world)"
            + "|an element|a fact|the second formula|the fact to which it leads)");

    private final Map<Integer, Set<String>> promises = new TreeMap<>();
    private final String terms;
    private final Set<String> tested = new LinkedHashSet<>();
    private final Set<String> testedTerms = new LinkedHashSet<>();

    Sentences(Path path) throws IOException {
        String text = Files.readString(path);
        Matcher sections = Pattern.compile("(?s)## Promise (\\d+): .*?(?=\n## )").matcher(text);
        while (sections.find()) {
            Set<String> sentences = new LinkedHashSet<>();
            for (String line : sections.group().split("\n")) {
                if (!line.isBlank() && !line.startsWith("##")) {
                    sentences.add(line.trim());
                }
            }
            promises.put(Integer.parseInt(sections.group(1)), sentences);
        }
        int from = text.indexOf("## Terms");
        terms = text.substring(text.indexOf('\n', from), text.indexOf("Ahead of the calls", from)).replaceAll("\\s+", " ").trim();
    }

    /** A test of what a call answers or does: the line of the promise that begins so. */
    void says(int promise, String beginning, Runnable test) {
        String found = null;
        for (String sentence : promises.getOrDefault(promise, Set.of())) {
            if (sentence.replaceAll("^`[^`]*`: ", "").startsWith(beginning)) {
                found = sentence;
            }
        }
        Check.isTrue("promise " + promise + " says: " + beginning, found != null);
        tested.add(promise + found);
        run("promise " + promise + ", " + beginning, test);
    }

    /** A test of what may be given. */
    void given(int promise, String parameter, Runnable test) {
        says(promise, "- `" + parameter + "`:", test);
    }

    /** A test of what makes a call throw, with what just does not. */
    void thrown(int promise, Class<? extends RuntimeException> exception, Runnable test) {
        says(promise, "Throws `" + exception.getSimpleName() + "`", test);
    }

    /** A test of some words of the terms. */
    void term(String words, Runnable test) {
        Check.isTrue("the terms say: " + words, terms.contains(words));
        testedTerms.add(words);
        run("the terms, " + words, test);
    }

    private static void run(String about, Runnable test) {
        int before = Check.count();
        Check.about(about);
        try {
            test.run();
        } catch (RuntimeException e) {
            Check.same("a call that throws nothing", e.toString(), "");
        }
        Check.about("");
        Check.isTrue(about + ": is tested", Check.count() > before);
    }

    /** Tells what has no test: bounds, what may be given, exceptions, and sentences of the terms. */
    void end() {
        for (Map.Entry<Integer, Set<String>> promise : promises.entrySet()) {
            for (String sentence : promise.getValue()) {
                boolean isPlain = PLAIN.matcher(sentence).matches() || sentence.matches("Returns [a-z ]+\\.");
                Check.isTrue("promise " + promise.getKey() + " has a test: " + sentence,
                        isPlain || tested.contains(promise.getKey() + sentence));
            }
        }
        Check.same("promises", promises.size(), 54);
        for (String sentence : terms.split("(?<=[.;]) ")) {
            boolean isTested = false;
            for (String words : testedTerms) {
                isTested |= words.contains(sentence) || sentence.contains(words);
            }
            boolean isHeading = sentence.matches("[A-Z][a-z]+(, parts| values)?\\.");
            Check.isTrue("the terms have a test: " + sentence, isTested || isHeading);
        }
    }
}
