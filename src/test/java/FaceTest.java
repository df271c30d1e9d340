import java.io.IOException;
import java.lang.reflect.Constructor;
import java.lang.reflect.Field;
import java.lang.reflect.Method;
import java.lang.reflect.Modifier;
import java.nio.file.Files;
import java.nio.file.Path;
import java.util.ArrayList;
import java.util.Arrays;
import java.util.HashSet;
import java.util.LinkedHashMap;
import java.util.List;
import java.util.Map;
import java.util.Set;
import java.util.TreeSet;

/** The public face: every constant, the constructor and every method, and nothing else that is seen. */
public final class FaceTest {
    private static final String[] METHODS = {
        "int told(int)", "long hand()", "long markAt(int)", "int mark(int,int)", "int part(int,int)",
        "int type(int,int)", "int flip(int)", "int turn()", "int mirror()", "int hold(int)", "int put(int)",
        "int cut(long)", "int take(int)", "int kind(int,int)", "int drift(int)", "int undo(int)",
        "long near(int)", "int nearest(int)", "int apart(int,int)", "int groups(int)",
        "int group(int,int,int)", "long middle(int,int)", "int fewest(int,int)", "int see(int)",
        "int write(int,int,int)", "int tear()", "int seed(int)", "int keep(int)", "int goBack(int)",
    };

    private static final Path SOURCE = Path.of("src/main/java/NearMarks.java");

    public static void main(String[] args) throws IllegalAccessException, IOException {
        theDocumentsLines();
        theDocumentsHeadings();
        theClass();
        theConstants();
        theConstructor();
        theMethods();
        theClassesInside();
        Check.end();
    }

    /** The public lines of the source, bodies left out, are those of the document, in its order. */
    private static void theDocumentsLines() throws IOException {
        List<String> lines = new ArrayList<>();
        for (String line : Files.readAllLines(SOURCE)) {
            if (line.startsWith("    public ")) {
                lines.add(line.strip().replaceAll(" \\{$", ";"));
            }
        }
        List<String> face = Doc.face();
        Check.due("lines of the document's face", face.size(), 1 + 1 + METHODS.length);
        Check.holds("the source has the document's lines: " + lines, lines.equals(face));
    }

    private static void theDocumentsHeadings() throws IOException {
        Map<String, List<String>> headings = new LinkedHashMap<>();
        List<String> under = new ArrayList<>();
        for (String line : Files.readAllLines(SOURCE)) {
            if (line.startsWith("    // ----")) {
                under = new ArrayList<>();
                headings.put(line.substring("    // ".length()), under);
            } else if (line.matches("    public (int|long) .*")) {
                under.add(line.replaceAll(" *public \\w+ (\\w+)\\(.*", "$1"));
            }
        }
        Check.due("headings of the document", Doc.headings().size(), 5);
        Check.holds("the source has the document's headings: " + headings, headings.equals(Doc.headings())
            && new ArrayList<>(headings.keySet()).equals(new ArrayList<>(Doc.headings().keySet())));
    }

    private static void theClass() {
        int modifiers = NearMarks.class.getModifiers();
        Check.holds("public and final", Modifier.isPublic(modifiers) && Modifier.isFinal(modifiers));
        Check.holds("no package", NearMarks.class.getPackageName().isEmpty());
        Check.holds("no class above", NearMarks.class.getSuperclass() == Object.class);
        Check.due("interfaces", NearMarks.class.getInterfaces().length, 0);
    }

    private static void theConstants() throws IllegalAccessException {
        Check.due("NONE", NearMarks.NONE, -1);
        Check.due("UNKNOWN", NearMarks.UNKNOWN, -1000000001);
        Check.due("OUTSIDE", NearMarks.OUTSIDE, -1000000002);
        Check.due("NOT", NearMarks.NOT, -1000000003);
        Check.due("FULL", NearMarks.FULL, -1000000004);
        Set<String> seen = new HashSet<>();
        for (Field field : NearMarks.class.getDeclaredFields()) {
            int modifiers = field.getModifiers();
            if (!Modifier.isPrivate(modifiers)) {
                Check.holds(field + " is public static final int", Modifier.isPublic(modifiers)
                    && Modifier.isStatic(modifiers) && Modifier.isFinal(modifiers) && field.getType() == int.class);
                seen.add(field.getName());
            }
            Check.holds(field + " is final if it is static",
                !Modifier.isStatic(modifiers) || Modifier.isFinal(modifiers));
        }
        Check.holds("just these constants are seen: " + seen,
            seen.equals(Set.of("NONE", "UNKNOWN", "OUTSIDE", "NOT", "FULL")));
    }

    private static void theConstructor() {
        Constructor<?>[] constructors = NearMarks.class.getDeclaredConstructors();
        Check.due("constructors", constructors.length, 1);
        Check.holds("public, without parameters", Modifier.isPublic(constructors[0].getModifiers())
            && constructors[0].getParameterCount() == 0);
    }

    private static void theMethods() {
        Set<String> seen = new TreeSet<>();
        for (Method method : NearMarks.class.getDeclaredMethods()) {
            if (Modifier.isPrivate(method.getModifiers())) {
                continue;
            }
            Check.holds(method + " is public, of the object", Modifier.isPublic(method.getModifiers())
                && !Modifier.isStatic(method.getModifiers()));
            seen.add(said(method));
        }
        Check.holds("just these methods are seen: " + seen, seen.equals(new TreeSet<>(Arrays.asList(METHODS))));
    }

    private static String said(Method method) {
        List<String> parameters = new ArrayList<>();
        for (Class<?> parameter : method.getParameterTypes()) {
            parameters.add(parameter.getName());
        }
        return method.getReturnType().getName() + " " + method.getName() + "(" + String.join(",", parameters) + ")";
    }

    private static void theClassesInside() {
        Set<String> names = new HashSet<>();
        for (String method : METHODS) {
            names.add(method.substring(method.indexOf(' ') + 1, method.indexOf('(')));
        }
        List<Class<?>> all = new ArrayList<>(Arrays.asList(NearMarks.class.getDeclaredClasses()));
        Check.holds("some twelve classes at most", all.size() + 1 <= 12);
        for (Class<?> inside : all) {
            int modifiers = inside.getModifiers();
            Check.holds(inside + " is static and not seen", Modifier.isStatic(modifiers)
                && !Modifier.isPublic(modifiers) && !Modifier.isProtected(modifiers));
            for (Method method : inside.getDeclaredMethods()) {
                Check.holds(method + " has a name of its own", !names.contains(method.getName()));
            }
        }
        for (Method method : NearMarks.class.getDeclaredMethods()) {
            Check.holds(method + " has a name of its own",
                !Modifier.isPrivate(method.getModifiers()) || !names.contains(method.getName()));
        }
    }
}
