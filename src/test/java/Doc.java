import java.io.IOException;
import java.nio.file.Files;
import java.nio.file.Path;
import java.util.ArrayList;
import java.util.LinkedHashMap;
import java.util.List;
import java.util.Map;
import java.util.TreeMap;
import java.util.regex.Matcher;
import java.util.regex.Pattern;

/**
 * The document's sentences. A test names the sentence that it holds to, as it stands in the document;
 * answers that are not as due are told under it.
 */
final class Doc {
    private static final Path FILE = Path.of("../shared/DOC.md");
    private static final Map<String, String> PLACES = read();

    private Doc() {
    }

    /** Of what the document says ahead of its face. */
    static void first(String sentence) {
        says("What it is", sentence);
    }

    static void terms(String sentence) {
        says("Terms", sentence);
    }

    static void section(int number, String sentence) {
        says("section " + number, sentence);
    }

    static void promise(int number, String sentence) {
        says("promise " + number, sentence);
    }

    private static void says(String place, String sentence) {
        Check.under(place + ": " + sentence);
        Check.holds("that " + place + " says this", PLACES.getOrDefault(place, "").contains(sentence));
    }

    /** What is promised, by place: What it is, Terms, section 1 to 3, promise 1 to 30; each in one line. */
    static Map<String, String> places() {
        return PLACES;
    }

    /** The lines between the braces of the document's public face. */
    static List<String> face() {
        Matcher block = Pattern.compile("## The public face\\s+```java\\s+public final class NearMarks \\{(.*?)\n\\}",
            Pattern.DOTALL).matcher(text());
        List<String> lines = new ArrayList<>();
        if (block.find()) {
            block.group(1).lines().map(String::strip).filter(line -> !line.isEmpty()).forEach(lines::add);
        }
        return lines;
    }

    /** The calls, by the heading that the document says stands ahead of them. */
    static Map<String, List<String>> headings() {
        Map<String, List<String>> headings = new LinkedHashMap<>();
        Matcher ahead = Pattern.compile("Ahead of the calls (.*) the interface says: (.*)\\.").matcher(text());
        while (ahead.find()) {
            headings.put(ahead.group(2), List.of(ahead.group(1).replace("`", "").split(", ")));
        }
        return headings;
    }

    private static String text() {
        try {
            return Files.readString(FILE);
        } catch (IOException missing) {
            System.out.println("no " + FILE + ": " + missing);
            return "";
        }
    }

    private static Map<String, String> read() {
        Map<String, String> places = new TreeMap<>();
        for (String part : text().split("\n## ")) {
            if (part.startsWith("What it is")) {
                places.put("What it is", inOneLine(part.substring("What it is".length())));
            }
            if (part.startsWith("Terms")) {
                readTerms(part, places);
            }
            Matcher promise = Pattern.compile("Promise (\\d+):.*?`: (.*)", Pattern.DOTALL).matcher(part);
            if (promise.lookingAt()) {
                places.put("promise " + promise.group(1), inOneLine(promise.group(2)));
            }
        }
        return places;
    }

    private static void readTerms(String part, Map<String, String> places) {
        String plain = part.substring("Terms".length()).replaceAll("```(text)?", "")
            .replaceAll("Ahead of the calls [^\n]*", "");
        String[] sections = plain.split("======== ");
        places.put("Terms", inOneLine(sections[0]));
        for (int i = 1; i < sections.length; i++) {
            places.put("section " + sections[i].charAt(0), inOneLine(sections[i].substring(1)));
        }
    }

    private static String inOneLine(String text) {
        return text.replaceAll("\\s+", " ").strip();
    }
}
