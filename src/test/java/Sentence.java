import java.io.IOException;
import java.io.UncheckedIOException;
import java.nio.file.Files;
import java.nio.file.Path;
import java.util.ArrayList;
import java.util.HashSet;
import java.util.LinkedHashMap;
import java.util.List;
import java.util.Map;
import java.util.Set;

/**
 * The sentences of ../shared/DOC.md. A test names the one that it is for; that one stands before each
 * wrong answer, and in the end there must be none left that no test has named.
 */
final class Sentence {
    static final String TERMS = "Terms";

    private static final Map<String, List<String>> SECTIONS = readDocument();
    private static final Set<String> TESTED = new HashSet<>();
    private static int checksBefore = 0;
    private static String present = "";

    /** The checks from here to the next call are for a sentence of a promise. */
    static void of(int promise, String words) {
        of("Promise " + promise, words);
    }

    /** The same for a section by its title; a part of a sentence will do for the whole. */
    static void of(String section, String words) {
        closePresent();
        present = section + ", \"" + words + "\"";
        Check.about(present + ": ");
        boolean found = false;
        for (String sentence : SECTIONS.getOrDefault(section, List.of())) {
            if (sentence.contains(words)) {
                TESTED.add(section + ": " + sentence);
                found = true;
            }
        }
        if (!found) {
            Check.due("the document has this sentence", false, true);
        }
    }

    /** Complains about sentences without a test. */
    static void end() {
        closePresent();
        Check.about("");
        for (String section : SECTIONS.keySet()) {
            for (String sentence : SECTIONS.get(section)) {
                String whole = section + ": " + sentence;
                Check.due("a test for " + whole, TESTED.contains(whole) || saysNothingToTest(section, sentence), true);
            }
        }
    }

    private static void closePresent() {
        if (!present.isEmpty() && Check.made() == checksBefore) {
            Check.due("the test makes a check", false, true);
        }
        checksBefore = Check.made();
    }

    private static boolean saysNothingToTest(String section, String sentence) {
        boolean title = sentence.matches("[A-Z][a-z]+\\.|[0-9]+\\.|A day passes in these steps:|A simulation of .*");
        // FaceTest compares these with the class.
        boolean face = sentence.matches("(The constants: )?`[^`]*`:|Ahead of the calls .*");
        return title || face || section.equals("Not promised");
    }

    private static Map<String, List<String>> readDocument() {
        Map<String, List<String>> sections = new LinkedHashMap<>();
        String section = "";
        for (String line : lines()) {
            String text = line.trim().replaceAll(" +", " ");
            if (text.startsWith("#")) {
                section = text.replaceAll("^#+ ", "").replaceAll("^(Promise [0-9]+):.*", "$1");
            } else if (!text.isEmpty() && !text.startsWith("```") && !section.equals("The public face")) {
                sections.computeIfAbsent(section, s -> new ArrayList<>()).addAll(List.of(text.split("(?<=[.;:]) (?=[A-Z])")));
            }
        }
        return sections;
    }

    private static List<String> lines() {
        try {
            return Files.readAllLines(Path.of("../shared/DOC.md"));
        } catch (IOException e) {
            throw new UncheckedIOException(e);
        }
    }

    private Sentence() {
    }
}
