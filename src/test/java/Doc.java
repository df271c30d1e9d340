import java.io.IOException;
import java.nio.file.Files;
import java.nio.file.Path;
import java.util.Map;
import java.util.TreeMap;
import java.util.regex.Matcher;
import java.util.regex.Pattern;

/**
 * The document's sentences. A test names the sentence that it holds to, as it stands in the document;
 * answers that are not as due are told under it.
 */
final class Doc {
    private static final Path FILE = Path.of("../shared/DOC.md");
    private static final Map<String, String> PLACES = read();

    private Doc() {
    }

    static void terms(String sentence) {
        says("Terms", sentence);
    }

    static void section(int number, String sentence) {
        says("section " + number, sentence);
    }

    static void promise(int number, String sentence) {
        says("promise " + number, sentence);
    }

    private static void says(String place, String sentence) {
        Check.under(place + ": " + sentence);
        Check.holds("that " + place + " says this", PLACES.getOrDefault(place, "").contains(sentence));
    }

    /** What is promised, by place: Terms, section 1 to 3, promise 1 to 30; each in one line. */
    static Map<String, String> places() {
        return PLACES;
    }

    private static Map<String, String> read() {
        Map<String, String> places = new TreeMap<>();
        String text;
        try {
            text = Files.readString(FILE);
        } catch (IOException missing) {
            System.out.println("no " + FILE + ": " + missing);
            return places;
        }
        for (String part : text.split("\n## ")) {
            if (part.startsWith("Terms")) {
                readTerms(part, places);
            }
            Matcher promise = Pattern.compile("Promise (\\d+):.*?`: (.*)", Pattern.DOTALL).matcher(part);
            if (promise.lookingAt()) {
                places.put("promise " + promise.group(1), inOneLine(promise.group(2)));
            }
        }
        return places;
    }

    private static void readTerms(String part, Map<String, String> places) {
        String plain = part.substring("Terms".length()).replaceAll("```(text)?", "")
            .replaceAll("Ahead of the calls [^\n]*", "");
        String[] sections = plain.split("======== ");
        places.put("Terms", inOneLine(sections[0]));
        for (int i = 1; i < sections.length; i++) {
            places.put("section " + sections[i].charAt(0), inOneLine(sections[i].substring(1)));
        }
    }

    private static String inOneLine(String text) {
        return text.replaceAll("\\s+", " ").strip();
    }
}
