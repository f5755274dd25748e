import java.io.IOException;
import java.nio.charset.StandardCharsets;
import java.nio.file.Files;
import java.nio.file.Path;
import java.util.ArrayList;
import java.util.List;
import java.util.Map;
import java.util.TreeMap;

/** The document's sentences, and which of them a test has named as its own. */
final class Doc {
  private static final int PROMISES = 55;

  private final Map<Integer, List<String>> lines = new TreeMap<>();
  private final Map<Integer, List<Boolean>> isNamed = new TreeMap<>();
  private final List<String> prose = new ArrayList<>();
  private final List<Boolean> isProseNamed = new ArrayList<>();
  private String wholeProse = "";

  Doc(Path file) throws IOException {
    int promise = 0;
    boolean isProse = false;
    StringBuilder terms = new StringBuilder();
    for (String line : Files.readString(file, StandardCharsets.UTF_8).split("\n")) {
      if (line.startsWith("## ")) {
        promise = line.startsWith("## Promise ") ? Integer.parseInt(line.substring(11, line.indexOf(':'))) : 0;
        isProse = line.equals("## Terms") || line.equals("## What it is") || line.equals("## Not promised");
      } else if (line.startsWith("Ahead of the calls")) {
        isProse = false;
      } else if (promise > 0 && !line.isBlank()) {
        lines.computeIfAbsent(promise, key -> new ArrayList<>()).add(line);
        isNamed.computeIfAbsent(promise, key -> new ArrayList<>()).add(false);
      } else if (isProse) {
        terms.append(line.replace("<p>", "")).append(' ');
      }
    }
    wholeProse = terms.toString().replaceAll("\\s+", " ").trim();
    for (String sentence : wholeProse.split("(?<=[.;:]) ")) {
      prose.add(sentence);
      isProseNamed.add(false);
    }
  }

  /** Whether the words stand in a promise's lines; these lines count as named from now on. */
  boolean name(int promise, String words) {
    boolean isFound = false;
    List<String> all = lines.getOrDefault(promise, List.of());
    for (int k = 0; k < all.size(); k++) {
      if (all.get(k).contains(words)) {
        isNamed.get(promise).set(k, true);
        isFound = true;
      }
    }
    return isFound;
  }

  /** Likewise for words outside the promises, which may go over several sentences. */
  boolean name(String words) {
    int from = wholeProse.indexOf(words);
    if (from < 0) {
      return false;
    }
    int start = 0;
    for (int k = 0; k < prose.size(); k++) {
      int end = start + prose.get(k).length();
      if (start < from + words.length() && from < end) {
        isProseNamed.set(k, true);
      }
      start = end + 1;
    }
    return true;
  }

  /** What no test has named; a heading of one word says nothing that could be broken. */
  List<String> unnamed() {
    List<String> found = new ArrayList<>();
    for (int promise = 1; promise <= PROMISES; promise++) {
      List<String> all = lines.getOrDefault(promise, List.of());
      if (all.isEmpty()) {
        found.add("promise " + promise + " has no lines");
      }
      for (int k = 0; k < all.size(); k++) {
        if (!isNamed.get(promise).get(k)) {
          found.add("promise " + promise + ": " + all.get(k));
        }
      }
    }
    for (int k = 0; k < prose.size(); k++) {
      if (!isProseNamed.get(k) && prose.get(k).contains(" ")) {
        found.add("terms: " + prose.get(k));
      }
    }
    return found;
  }
}
