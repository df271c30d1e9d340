import java.io.IOException;
import java.nio.file.Files;
import java.nio.file.Path;
import java.util.List;
import java.util.regex.Matcher;
import java.util.regex.Pattern;

/** Rules of LANGUAGE.md that can be read off the source; it is run from the project's folder. */
public final class LanguageTest {
    private static final Path SOURCE = Path.of("src/main/java/NearMarks.java");
    private static final List<String> FORBIDDEN = List.of(
        "\\b(throw|throws|try|catch|synchronized|assert|import|package|protected|volatile|transient|native)\\b",
        "->", "::", "@", "\\b(System|Thread|Object|Exception|Error)\\b", "\\b\\w+Exact\\b",
        "\\bstatic\\s*\\{", "\\b(equals|hashCode|toString)\\b", "\\bwhile\\s*\\(\\s*true\\b", "for\\s*\\(\\s*;");
    private static final List<String> LIBRARY = List.of("Long.bitCount", "Math.max", "Math.min");

    public static void main(String[] args) throws IOException {
        String whole = Files.readString(SOURCE);
        String code = withoutComments(whole);
        for (String form : FORBIDDEN) {
            Matcher found = Pattern.compile(form).matcher(code);
            Check.holds("no " + form, !found.find());
        }
        Check.holds("characters 1 to 127 alone", whole.chars().allMatch(sign -> sign > 0 && sign < 128));
        theLibrary(code);
        theLengths(code);
        whereObjectsAreMade(code);
        Check.end();
    }

    private static String withoutComments(String source) {
        String without = Pattern.compile("/\\*.*?\\*/", Pattern.DOTALL).matcher(source)
            .replaceAll(comment -> comment.group().replaceAll("[^\n]", ""));
        return without.replaceAll("//[^\n]*", "");
    }

    private static void theLibrary(String code) {
        Matcher call = Pattern.compile("\\b(Long|Integer|Math|Arrays|String|Character|Boolean)\\.\\w+").matcher(code);
        while (call.find()) {
            Check.holds(call.group() + " is among what is used", LIBRARY.contains(call.group()));
        }
    }

    /** A method begins with a line that ends in ") {" and no word of a statement ahead of it. */
    private static void theLengths(String code) {
        String[] lines = code.split("\n", -1);
        for (int i = 0; i < lines.length; i++) {
            if (!isHead(lines[i])) {
                continue;
            }
            int end = endOf(lines, i);
            Check.holds("line " + (i + 1) + ": some sixty lines at most", end - i + 1 <= 60);
            String head = lines[i];
            String parameters = head.substring(head.indexOf('('), head.lastIndexOf(')'));
            Check.holds("line " + (i + 1) + ": seven parameters at most", parameters.split(",").length <= 7);
        }
    }

    private static boolean isHead(String line) {
        return line.matches("\\s+(?!if|for|while|switch|else|return|\\}).*\\) \\{");
    }

    private static int endOf(String[] lines, int head) {
        String indent = lines[head].replaceAll("\\S.*", "");
        int end = head;
        while (end < lines.length - 1 && !lines[end].equals(indent + "}")) {
            end++;
        }
        return end;
    }

    /** Rows are made in constructors and used again: no call makes anything. */
    private static void whereObjectsAreMade(String code) {
        String[] lines = code.split("\n", -1);
        int constructorEnds = -1;
        for (int i = 0; i < lines.length; i++) {
            if (lines[i].matches("\\s+(public )?[A-Z]\\w*\\(.*\\) \\{")) {
                constructorEnds = endOf(lines, i);
            }
            Check.holds("line " + (i + 1) + ": made in a constructor",
                !lines[i].matches(".*\\bnew\\b.*") || i <= constructorEnds);
        }
    }
}
