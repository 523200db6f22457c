import java.io.IOException;
import java.lang.reflect.Member;
import java.lang.reflect.Method;
import java.lang.reflect.Modifier;
import java.nio.file.Files;
import java.nio.file.Path;
import java.util.List;
import java.util.Set;
import java.util.TreeSet;
import java.util.regex.Matcher;
import java.util.regex.Pattern;

/** The face is that of the document, and the file keeps what of LANGUAGE.md can be seen by reading it. */
public final class FaceTest {
    private static final String FACE = """
        boolean cell(int,int,int,int)
        boolean bar(int,int)
        boolean moves(int,int,int)
        boolean aim(int,int,int,long)
        boolean weight(int,long,long)
        int run(int,int,int,int,long)
        int at(int,int)
        long cost(int)
        long bound()
        boolean proved()
        int unlike(long,long)
        long span(int,int,int)
        boolean bridge(int,int,int,long)
        int mark(int,int,int,int)
        int zone(int,int,int)
        long sum(int)
        int turns()
        boolean keeps()
        """;
    /** What rules 4, 6, 12 and 13 leave out of the language and its library. */
    private static final List<String> LEFT_OUT = List.of("::", "finally", "synchronized", "assert ", "getMessage",
        "System.out", "System.nano", "System.current", "Exact(", "Random", "Thread", "Runtime.", "HashMap", "HashSet",
        "Optional", "Stream");
    private static final Pattern LIBRARY =
        Pattern.compile("import java\\.util\\.(ArrayList|Arrays|Iterator|List|NoSuchElementException);");

    public static void main(String[] args) throws IOException {
        faceIsThatOfTheDocument();
        nothingElseIsSeen();
        List<String> lines = Files.readAllLines(Path.of("src/main/java/CorridorCells.java"));
        textKeepsTheRules(lines);
        methodsAreShort(lines);
        Check.end();
    }

    private static void faceIsThatOfTheDocument() {
        Set<String> face = new TreeSet<>();
        for (Method method : CorridorCells.class.getDeclaredMethods()) {
            if (Modifier.isPublic(method.getModifiers())) {
                String parameters = Pattern.compile("\\(.*\\)").matcher(method.toString()).results()
                    .findFirst().orElseThrow().group();
                face.add(method.getReturnType() + " " + method.getName() + parameters);
                Check.due(method + " is of an object", Modifier.isStatic(method.getModifiers()), false);
            }
        }
        Check.due("face " + face, face.equals(new TreeSet<>(FACE.lines().toList())), true);
        Check.due("final", Modifier.isFinal(CorridorCells.class.getModifiers()), true);
        Check.due("public", Modifier.isPublic(CorridorCells.class.getModifiers()), true);
        Check.due("constructors", CorridorCells.class.getDeclaredConstructors().length, 1);
        Check.due("constants", CorridorCells.class.getFields().length, 2);
    }

    private static void nothingElseIsSeen() {
        Set<String> faceNames = new TreeSet<>();
        FACE.lines().forEach(line -> faceNames.add(line.replaceAll("^\\S+ |\\(.*", "")));
        for (Member member : CorridorCells.class.getDeclaredMethods()) {
            int kind = member.getModifiers();
            Check.due(member + " is public or private", Modifier.isPublic(kind) || Modifier.isPrivate(kind), true);
            Check.due(member + " bears a name of its own",
                Modifier.isPrivate(kind) && faceNames.contains(member.getName()), false);
        }
        for (Member member : CorridorCells.class.getDeclaredFields()) {
            boolean isConstant = member.getName().equals("BAD") || member.getName().equals("SPENT");
            Check.due(member + " is private", Modifier.isPrivate(member.getModifiers()), !isConstant);
        }
        for (Class<?> inside : CorridorCells.class.getDeclaredClasses()) {
            Check.due(inside + " is static", Modifier.isStatic(inside.getModifiers()), true);
            long fields = List.of(inside.getDeclaredFields()).stream()
                .filter(field -> !Modifier.isStatic(field.getModifiers())).count();
            Check.due(inside + " has some twenty fields", fields <= 22, true);
        }
        Check.due("some twelve classes", CorridorCells.class.getDeclaredClasses().length <= 13, true);
    }

    private static void textKeepsTheRules(List<String> lines) {
        for (int i = 0; i < lines.size(); i++) {
            String line = lines.get(i).replaceAll("/\\*\\*.*|//.*", "");
            for (String word : LEFT_OUT) {
                Check.due("line " + (i + 1) + " has '" + word + "'", line.contains(word), false);
            }
            boolean isOther = line.startsWith("import ") && !LIBRARY.matcher(line.trim()).matches();
            Check.due("line " + (i + 1) + " is of another library", isOther || line.startsWith("package "), false);
        }
    }

    private static void methodsAreShort(List<String> lines) {
        Pattern head = Pattern.compile("^( +)(?:[a-z]+ )*[\\w\\[\\]]+ ?\\w*\\(([^()]*)\\) \\{$");
        int begun = -1;
        String indent = "";
        for (int i = 0; i < lines.size(); i++) {
            Matcher matcher = head.matcher(lines.get(i));
            if (begun < 0 && matcher.matches()) {
                begun = i;
                indent = matcher.group(1);
                Check.due("parameters in line " + (i + 1), matcher.group(2).split(",").length <= 7, true);
            } else if (begun >= 0 && lines.get(i).equals(indent + "}")) {
                Check.due("lines of the method in line " + (begun + 1), i - begun <= 65, true);
                begun = -1;
            }
        }
    }
}
