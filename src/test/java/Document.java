import java.io.IOException;
import java.nio.file.Files;
import java.nio.file.Path;
import java.util.ArrayList;
import java.util.List;

/** The text of ../shared/DOC.md by promises; the property "document" tells where it lies. */
final class Document {
  private final List<String> lines;

  private Document(List<String> lines) {
    this.lines = lines;
  }

  static Document ofProperty() {
    Path path = Path.of(System.getProperty("document", "../shared/DOC.md"));
    try {
      return new Document(Files.readAllLines(path));
    } catch (IOException e) {
      // The class can be tested without the document; only the quotes can't be held against it then.
      System.out.println("no document at " + path + ": what the tests quote is not looked up");
      return new Document(List.of());
    }
  }

  /** Whether the sentence, or the part of one, stands in a line of the promise; 0 is the description. */
  boolean says(int promise, String sentence) {
    return lines.isEmpty() || linesOf(promise).stream().anyMatch(line -> line.contains(sentence));
  }

  /** What is said in a promise: no signature, no headings, and none of its arguments (see ArgumentsTest). */
  List<String> sentencesOf(int promise) {
    List<String> found = new ArrayList<>(linesOf(promise));
    found.removeIf(line -> line.startsWith("`") || line.startsWith("- `") || line.startsWith("----")
        || line.matches("\\d\\. [A-Za-z]+"));
    return found;
  }

  /** The names of the arguments that a promise tells of, in their order. */
  List<String> argumentsOf(int promise) {
    List<String> found = new ArrayList<>();
    for (String line : linesOf(promise)) {
      if (line.startsWith("- `")) {
        found.add(line.substring(3, line.indexOf('`', 3)));
      }
    }
    return found;
  }

  /** The signature of a promise, without the signs around it. */
  String signatureOf(int promise) {
    for (String line : linesOf(promise)) {
      if (line.startsWith("`")) {
        return line.substring(1, line.length() - 1);
      }
    }
    return "";
  }

  /** How many promises there are, 0 if there is no document to look into. */
  int promises() {
    return (int) lines.stream().filter(line -> line.startsWith("## Promise ")).count();
  }

  List<String> linesOf(int promise) {
    String heading = promise == Edges.DESCRIPTION ? "## Description" : "## Promise " + promise + ":";
    List<String> found = new ArrayList<>();
    boolean isInside = false;
    for (String line : lines) {
      if (line.startsWith("## ")) {
        isInside = line.startsWith(heading);
      } else if (isInside) {
        found.add(line);
      }
    }
    return found;
  }
}
