import java.io.IOException;
import java.nio.file.Files;
import java.nio.file.Path;
import java.util.ArrayList;
import java.util.LinkedHashMap;
import java.util.List;
import java.util.Map;
import java.util.Set;
import java.util.regex.Matcher;
import java.util.regex.Pattern;

/**
 * The sentences of DOC.md that may name a boundary case, by the section that they stand in: a
 * paragraph of its description ("Rules"), its beginning ("Description") or a promise ("Promise 7").
 */
final class Document {
    private static final Pattern PROMISE = Pattern.compile("## (Promise \\d+).*");
    private static final Pattern TITLE = Pattern.compile("([A-Z][a-z]*(?: [a-z]+)?)\\. (.*)");
    private static final Set<String> READ = Set.of("What it is", "Description");

    private final Map<String, List<String>> sections = new LinkedHashMap<>();

    Document(Path path) throws IOException {
        String section = "";
        StringBuilder paragraph = new StringBuilder();
        for (String line : Files.readAllLines(path)) {
            boolean heading = line.startsWith("## ");
            if (heading || line.isEmpty() || line.startsWith("- ")) {
                add(section, paragraph.toString().trim());
                paragraph.setLength(0);
            }
            if (heading) {
                Matcher promise = PROMISE.matcher(line);
                section = promise.matches() ? promise.group(1) : line.substring(3);
            } else {
                paragraph.append(' ').append(line.startsWith("- ") ? line.substring(2) : line);
            }
        }
        add(section, paragraph.toString().trim());
    }

    private void add(String section, String paragraph) {
        boolean promised = section.startsWith("Promise ");
        if (paragraph.isEmpty() || !promised && !READ.contains(section)) {
            return;
        }
        Matcher title = TITLE.matcher(paragraph);
        boolean titled = !promised && title.matches();
        List<String> sentences = sections.computeIfAbsent(titled ? title.group(1) : section,
                name -> new ArrayList<>());
        String words = (titled ? title.group(2) : paragraph).replaceAll("\\s+", " ");
        sentences.addAll(List.of(words.split("(?<=\\.) (?=[A-Z])")));
    }

    Set<String> sections() {
        return sections.keySet();
    }

    List<String> sentences(String section) {
        return sections.getOrDefault(section, List.of());
    }

    /** Of a promise's own lines, those that tell a range, a number or an exception. */
    boolean maybeBoundary(String section, String sentence) {
        return !section.startsWith("Promise ") || sentence.matches("(Throws `|`\\w+`:).*|Returns.*\\d.*");
    }
}
