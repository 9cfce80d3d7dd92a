import java.io.IOException;
import java.io.UncheckedIOException;
import java.nio.file.Files;
import java.nio.file.Path;
import java.util.ArrayList;
import java.util.LinkedHashMap;
import java.util.List;
import java.util.Map;
import java.util.regex.Matcher;
import java.util.regex.Pattern;

/**
 * The words of the document, by section, and which of them a test has quoted. The sections are "1" to
 * "30" for the promises, "I" to "V" for the terms, "use" for the sentence on the 512 calls, "constants",
 * and "tape" for what stands behind the terms on the calls that take n bytes of the tape.
 */
final class Doc {
  private static final Path FILE = Path.of("../shared/DOC.md");

  private final Map<String, String> texts = new LinkedHashMap<>();
  private final Map<String, boolean[]> quoted = new LinkedHashMap<>();

  Doc() {
    String all = read();
    put("use", all, "(An object is used .*?)\n\n");
    put("constants", all, "\n(The constants: .*?)\n\n");
    put("tape", all, "---- things and uses \\((.*?)\\)\\.\n\n");
    String[] terms = {"I", "II", "III", "IV", "V"};
    for (int i = 0; i < terms.length; i++) {
      String end = i + 1 < terms.length ? terms[i + 1] + "\\. " : "The constants";
      put(terms[i], all, "\n" + terms[i] + "\\. (.*?)\n\n" + end);
    }
    for (int promise = 1; promise <= 30; promise++) {
      put("" + promise, all, "\n## Promise " + promise + ": [^\n]*\n\n`[^`]*`: (.*?)\n\n##");
    }
  }

  private static String read() {
    try {
      return Files.readString(FILE);
    } catch (IOException e) {
      throw new UncheckedIOException(e);
    }
  }

  private void put(String section, String all, String pattern) {
    Matcher m = Pattern.compile(pattern, Pattern.DOTALL).matcher(all);
    if (!m.find()) {
      throw new IllegalStateException("the document has no section " + section);
    }
    String text = m.group(1).replaceAll("```\\w*", "").replaceAll("\\s+", " ").trim();
    texts.put(section, text);
    quoted.put(section, new boolean[text.length()]);
  }

  /** Whether the words stand in the section; they are quoted then. */
  boolean says(String section, String words) {
    String text = texts.get(section);
    int at = text.indexOf(words);
    boolean found = at >= 0;
    while (at >= 0) {
      for (int i = 0; i < words.length(); i++) {
        quoted.get(section)[at + i] = true;
      }
      at = text.indexOf(words, at + 1);
    }
    return found;
  }

  /** The stretches of a section that no test has quoted and that have a letter or a digit. */
  List<String> unquoted(String section) {
    List<String> left = new ArrayList<>();
    StringBuilder stretch = new StringBuilder();
    String text = texts.get(section);
    for (int i = 0; i <= text.length(); i++) {
      if (i < text.length() && !quoted.get(section)[i]) {
        stretch.append(text.charAt(i));
      } else if (stretch.length() > 0) {
        if (stretch.chars().anyMatch(Character::isLetterOrDigit)) {
          left.add(stretch.toString().trim());
        }
        stretch.setLength(0);
      }
    }
    return left;
  }
}
