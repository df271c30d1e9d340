import java.io.IOException;
import java.nio.file.DirectoryStream;
import java.nio.file.Files;
import java.nio.file.Path;
import java.util.ArrayList;
import java.util.List;
import java.util.Map;
import java.util.Set;
import java.util.regex.Matcher;
import java.util.regex.Pattern;

/** Every sentence of the document, from the first line to promise 30, is named by a test that holds to it. */
public final class SentencesTest {
    private static final Path TESTS = Path.of("src/test/java");
    private static final Pattern NAMED =
        Pattern.compile("Doc\\.(first|terms|section|promise)\\((?:(\\d+), )?\"([^\"]*)\"\\)");
    /** It tells how to read the document; nothing can be asked for it. */
    private static final Set<String> NOTHING_TO_ASK = Set.of("Words in capitals are told where they come first.");

    private record Named(String place, String sentence) { }

    public static void main(String[] args) throws IOException {
        Map<String, String> places = Doc.places();
        Check.due("places in the document", places.size(), 1 + 1 + 3 + 30);
        List<Named> all = named();
        for (Map.Entry<String, String> place : places.entrySet()) {
            isNamed(place.getKey(), place.getValue(), all);
        }
        Check.end();
    }

    private static List<Named> named() throws IOException {
        List<Named> all = new ArrayList<>();
        try (DirectoryStream<Path> files = Files.newDirectoryStream(TESTS, "*Test.java")) {
            for (Path file : files) {
                Matcher found = NAMED.matcher(Files.readString(file));
                while (found.find()) {
                    all.add(new Named(placeOf(found.group(1), found.group(2)), found.group(3)));
                }
            }
        }
        for (String sentence : NOTHING_TO_ASK) {
            all.add(new Named("Terms", sentence));
        }
        return all;
    }

    private static String placeOf(String kind, String number) {
        switch (kind) {
            case "first": return "What it is";
            case "terms": return "Terms";
            default: return kind + " " + number;
        }
    }

    private static void isNamed(String place, String text, List<Named> all) {
        StringBuilder left = new StringBuilder(text);
        for (Named named : all) {
            if (!named.place().equals(place)) {
                continue;
            }
            for (int at = text.indexOf(named.sentence()); at >= 0; at = text.indexOf(named.sentence(), at + 1)) {
                left.replace(at, at + named.sentence().length(), " ".repeat(named.sentence().length()));
            }
        }
        String rest = left.toString().replaceAll("[^A-Za-z0-9]+", " ").strip();
        Check.holds(place + " is named whole; left is: " + rest, rest.isEmpty());
    }
}
