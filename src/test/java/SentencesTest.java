import java.io.IOException;
import java.nio.file.Files;
import java.nio.file.Path;
import java.util.ArrayList;
import java.util.List;
import java.util.Map;
import java.util.TreeMap;
import java.util.regex.Matcher;
import java.util.regex.Pattern;
import java.util.stream.Stream;

/** Each sentence of the document's terms and promises is named by a test of boundary cases, and none is misquoted. */
public final class SentencesTest {
    private static final Path DOCUMENT = Path.of("../shared/DOC.md");

    private record Quote(String file, String part, String words) { }

    public static void main(String[] args) throws IOException {
        if (!Files.exists(DOCUMENT)) {
            System.out.println("the document is not here, so that its sentences can't be compared");
            return;
        }
        Map<String, List<String>> sentences = sentences(Files.readString(DOCUMENT));
        List<Quote> quotes = quotes();
        for (Quote quote : quotes) {
            List<String> all = sentences.getOrDefault(quote.part, List.of());
            boolean stands = all.stream().anyMatch(sentence -> sentence.contains(quote.words));
            Check.due(quote + " stands in the document", stands, true);
        }
        sentences.forEach((part, all) -> {
            for (String sentence : all) {
                boolean isNamed = quotes.stream().anyMatch(q -> q.part.equals(part) && sentence.contains(q.words));
                Check.due(part + ", '" + sentence + "' has a test", isNamed, true);
            }
        });
        Check.due("promises", sentences.keySet().stream().filter(part -> part.startsWith("Promise ")).count(), 19);
        Check.end();
    }

    /** The sentences of each part that promises something; what a call looks like is no sentence. */
    private static Map<String, List<String>> sentences(String document) {
        Map<String, List<String>> byPart = new TreeMap<>();
        for (String part : document.split("(?m)^## ")) {
            int lineEnd = part.indexOf('\n');
            String name = part.substring(0, Math.max(0, lineEnd)).replaceAll(":.*", "");
            if (name.equals("Terms") || name.startsWith("Promise ")) {
                String text = part.substring(lineEnd).replaceAll("```\\w*|`[^`]*`:", " ").replaceAll("\\s+", " ").trim();
                byPart.put(name, new ArrayList<>(List.of(text.split("(?<=[^.]\\.) (?=[A-Z-])"))));
            } else if (name.equals("What it is")) {
                String last = part.substring(lineEnd).trim();
                byPart.put(name, List.of(last.substring(last.lastIndexOf('\n') + 1)));
            }
        }
        return byPart;
    }

    private static List<Quote> quotes() throws IOException {
        Pattern call = Pattern.compile("^ +of\\(\"([^\"]*)\", \"([^\"]*)\"\\);$", Pattern.MULTILINE);
        List<Quote> quotes = new ArrayList<>();
        try (Stream<Path> files = Files.list(Path.of("src/test/java"))) {
            for (Path file : files.filter(f -> f.getFileName().toString().startsWith("Boundary")).sorted().toList()) {
                Matcher matcher = call.matcher(Files.readString(file));
                while (matcher.find()) {
                    quotes.add(new Quote(file.getFileName().toString(), matcher.group(1), matcher.group(2)));
                }
            }
        }
        return quotes;
    }
}
