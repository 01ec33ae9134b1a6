import java.nio.file.Files;
import java.nio.file.Path;
import java.util.ArrayList;
import java.util.LinkedHashMap;
import java.util.List;
import java.util.Map;
import java.util.regex.Matcher;
import java.util.regex.Pattern;

/**
 * DOC.md in its sections. A test quotes the words that it tests: they must stand in the document,
 * and a test program can demand that none are left that no test has quoted.
 */
final class Document {
  private static final Pattern HEADING =
      Pattern.compile("## (Promise \\d+|.+?)(: .*)?|\\d\\. \\w+");

  /** By heading: the section's lines, but for signatures, empty lines and what stands in blocks. */
  private final Map<String, List<String>> sections = new LinkedHashMap<>();
  /** By heading: its whole line. */
  private final Map<String, String> titles = new LinkedHashMap<>();
  private final Map<String, String> unquoted = new LinkedHashMap<>();

  Document(Path path) throws Exception {
    String text = Files.readString(path).replaceAll("(?s)```.*?```", "");
    String heading = "";
    for (String line : text.split("\n")) {
      Matcher matcher = HEADING.matcher(line);
      if (matcher.matches()) {
        heading = matcher.group(1) == null ? line : matcher.group(1);
        titles.put(heading, line);
      } else if (!line.isBlank() && !line.startsWith("`") && !line.startsWith("====")) {
        sections.computeIfAbsent(heading, h -> new ArrayList<>()).add(line.strip());
      }
    }
    for (String section : sections.keySet()) {
      unquoted.put(section, all(section, false));
    }
  }

  private String all(String section, boolean isWithParameters) {
    StringBuilder text = new StringBuilder();
    for (String line : lines(section)) {
      if (isWithParameters || !line.startsWith("- `")) {
        text.append(line).append(' ');
      }
    }
    return text.toString();
  }

  List<String> lines(String section) {
    return sections.getOrDefault(section, List.of());
  }

  Iterable<String> headings() {
    return sections.keySet();
  }

  /** The heading of a method's promise. */
  String sectionOf(String method) {
    for (String section : titles.keySet()) {
      if (titles.get(section).equals("## " + section + ": " + method)) {
        return section;
      }
    }
    throw new IllegalArgumentException(method);
  }

  /** The checks that follow test these words of this section. */
  void quote(String section, String... words) {
    Check.part(section + ": " + String.join(" .. ", words));
    for (String some : words) {
      Check.due("stands in the document", all(section, true).contains(some), true);
      unquoted.computeIfPresent(section, (s, left) -> left.replace(some, ""));
    }
  }

  /** Words that name nothing that a test of this program could break. */
  void pass(String section, String words) {
    quote(section, words);
  }

  void nothingIsLeft(String section) {
    Check.part(section);
    Check.due("words that no test quotes", unquoted.get(section).strip(), "");
  }
}
