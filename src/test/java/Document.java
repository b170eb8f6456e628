import java.io.IOException;
import java.nio.file.Files;
import java.nio.file.Path;
import java.util.ArrayList;
import java.util.List;

/** The text of ../shared/DOC.md by promises; the property "document" tells where it lies. */
final class Document {
  private final List<String> lines;

  private Document(List<String> lines) {
    this.lines = lines;
  }

  static Document ofProperty() {
    Path path = Path.of(System.getProperty("document", "../shared/DOC.md"));
    try {
      return new Document(Files.readAllLines(path));
    } catch (IOException e) {
      // The class can be tested without the document; only the quotes can't be held against it then.
      System.out.println("no document at " + path + ": what the tests quote is not looked up");
      return new Document(List.of());
    }
  }

  /** Whether the sentence, or the part of one, stands in a line of the promise; 0 is the description. */
  boolean says(int promise, String sentence) {
    return lines.isEmpty() || linesOf(promise).stream().anyMatch(line -> line.contains(sentence));
  }

  List<String> linesOf(int promise) {
    String heading = promise == Edges.DESCRIPTION ? "## Description" : "## Promise " + promise + ":";
    List<String> found = new ArrayList<>();
    boolean isInside = false;
    for (String line : lines) {
      if (line.startsWith("## ")) {
        isInside = line.startsWith(heading);
      } else if (isInside) {
        found.add(line);
      }
    }
    return found;
  }
}
