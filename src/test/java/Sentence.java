import java.io.IOException;
import java.nio.charset.StandardCharsets;
import java.nio.file.Files;
import java.nio.file.Path;
import java.util.ArrayList;
import java.util.LinkedHashMap;
import java.util.List;
import java.util.Map;

/**
 * Tests of boundary cases. Each names the place of the document ("promise 2", "Terms" for what stands ahead of
 * section 1, "Terms 1" to "Terms 4", "What it is"), a sentence there to the letter, and which case of it is held.
 */
final class Sentence {
    private static final Map<String, List<String>> named = new LinkedHashMap<>();

    private Sentence() {
    }

    static void holds(String place, String sentence, String boundary, Due.Test test) {
        named.computeIfAbsent(place, each -> new ArrayList<>()).add(sentence);
        Due.test(place + ", \"" + sentence + "\": " + boundary, test);
    }

    /** To be called behind all of holds(): compares the sentences that were named with those of the document. */
    static void all(String document) throws IOException {
        Map<String, String> places = placesOf(Files.readAllLines(Path.of(document), StandardCharsets.US_ASCII));
        Due.test("the document has every sentence that a test names", () -> namedStand(places));
        Due.test("each sentence of the promises and Terms is named by a test", () -> noneIsLeft(places));
    }

    private static void namedStand(Map<String, String> places) {
        for (String place : named.keySet()) {
            for (String sentence : named.get(place)) {
                if (!places.getOrDefault(place, "").contains(sentence)) {
                    Due.fail(place + " has no sentence \"" + sentence + "\"");
                }
            }
        }
    }

    private static void noneIsLeft(Map<String, String> places) {
        // 41 promises, Terms, their four sections, and what the document is.
        Due.is(places.size(), 41 + 1 + 4 + 1);
        for (String place : places.keySet()) {
            for (String sentence : sentencesOf(places.get(place))) {
                if (!place.equals("What it is") && !isNamed(place, sentence)) {
                    Due.fail("no test names \"" + sentence + "\" of " + place);
                }
            }
        }
    }

    /** Whether a test names this sentence, a part of it, or it and its neighbours. */
    private static boolean isNamed(String place, String sentence) {
        for (String each : named.getOrDefault(place, List.of())) {
            if (each.contains(sentence) || sentence.contains(each)) {
                return true;
            }
        }
        return false;
    }

    /** Cut behind each full stop that is not one of the two of a row that goes on. */
    private static List<String> sentencesOf(String text) {
        List<String> sentences = new ArrayList<>();
        for (String each : text.split("(?<=[^ .]\\.\\)?) ")) {
            sentences.add(each);
        }
        return sentences;
    }

    /** The text of each place in one line, without the numbers of the sections and the signatures of the calls. */
    private static Map<String, String> placesOf(List<String> lines) {
        Map<String, String> places = new LinkedHashMap<>();
        String place = "";
        for (String line : lines) {
            if (line.startsWith("## ")) {
                place = line.startsWith("## Promise ") ? "promise " + line.substring(11, line.indexOf(':')) : line.substring(3);
            } else if (place.startsWith("Terms") && line.matches("[1-4]\\. .*")) {
                place = "Terms " + line.charAt(0);
            }
            boolean told = !line.startsWith("#") && !line.startsWith("```") && !line.startsWith("Ahead of the calls");
            if (told && !line.isBlank() && place.matches("promise .*|Terms.*|What it is")) {
                String words = line.replaceFirst("^[1-4]\\. |^`[^`]*`: ", "").trim();
                places.merge(place, words, (ahead, more) -> ahead + " " + more);
            }
        }
        return places;
    }
}
