import java.io.IOException;
import java.nio.file.Files;
import java.nio.file.Path;
import java.util.ArrayList;
import java.util.LinkedHashMap;
import java.util.List;
import java.util.Map;

/** DOC.md by its parts, and which of its words some test has quoted. */
final class Document {
  static final String TERMS = "Terms";
  static final String WHAT_IT_IS = "What it is";
  private final Map<String, String> texts = new LinkedHashMap<>();
  private final Map<String, boolean[]> quoted = new LinkedHashMap<>();

  Document(Path file) throws IOException {
    for (String part : Files.readString(file).split("\n## ")) {
      int end = part.indexOf('\n');
      if (end < 0) continue;
      String title = part.substring(0, end).trim();
      String body = part.substring(end).replaceAll("```(text)?", " ").replaceAll("\\s+", " ").trim();
      if (title.startsWith("Promise ")) put(title.substring(8, title.indexOf(':')), body.substring(body.indexOf("`: ") + 3));
      if (title.equals(TERMS)) put(TERMS, body.substring(0, body.indexOf("Ahead of the calls")));
      if (title.equals(WHAT_IT_IS)) put(WHAT_IT_IS, body.substring(body.indexOf("An object is used")));
    }
  }

  private void put(String name, String text) {
    texts.put(name, text);
    quoted.put(name, new boolean[text.length()]);
  }

  int promises() {
    return texts.size() - 2;
  }

  /** Whether a part has the words; if it has, they count as quoted. */
  boolean quote(String name, String words) {
    String text = texts.getOrDefault(name, "");
    int at = text.indexOf(words);
    if (at < 0 || words.isEmpty()) return false;
    for (int i = at; i < at + words.length(); i++) quoted.get(name)[i] = true;
    return true;
  }

  /** What no test has quoted; signs between quotes don't count. */
  List<String> left() {
    List<String> all = new ArrayList<>();
    for (String name : texts.keySet()) {
      StringBuilder rest = new StringBuilder();
      for (int i = 0; i <= texts.get(name).length(); i++) {
        if (i < texts.get(name).length() && !quoted.get(name)[i]) {
          rest.append(texts.get(name).charAt(i));
          continue;
        }
        if (rest.toString().matches(".*[A-Za-z0-9].*")) all.add(name + ": " + rest.toString().trim());
        rest.setLength(0);
      }
    }
    return all;
  }
}
