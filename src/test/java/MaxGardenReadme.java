import java.io.IOException;
import java.io.UncheckedIOException;
import java.lang.reflect.Method;
import java.lang.reflect.Modifier;
import java.net.URL;
import java.net.URLClassLoader;
import java.nio.charset.StandardCharsets;
import java.nio.file.Files;
import java.nio.file.Path;
import java.util.ArrayList;
import java.util.Comparator;
import java.util.List;
import java.util.TreeSet;
import java.util.regex.Matcher;
import java.util.regex.Pattern;
import java.util.stream.Stream;
import javax.tools.JavaCompiler;
import javax.tools.ToolProvider;

/** README.md, taken at its word: its calls must answer as it tells, its program print so, and its commands run. */
public final class MaxGardenReadme {
  private static final Pattern TOLD =
      Pattern.compile("\\s*(?:int (\\w+) = )?(garden\\.(\\w+)\\(.*?\\));\\s+// (.*)");
  private static final Path ROOT = Path.of(System.getProperty("project.root", "."));

  private static int checks;
  private static int wrong;
  private static final TreeSet<String> called = new TreeSet<>();

  /** A block between two fences, and the number of its first line. */
  private record Block(String kind, int line, List<String> lines) {
    private String text() {
      return String.join("\n", lines) + "\n";
    }
  }

  private MaxGardenReadme() {
  }

  public static void main(String[] arguments) throws Exception {
    List<String> lines = Files.readAllLines(ROOT.resolve("README.md"), StandardCharsets.UTF_8);
    List<Block> blocks = blocksOf(lines);
    Path work = Files.createTempDirectory("readme");
    try {
      callAll(blocks, work);
      runAll(blocks, work);
    } finally {
      remove(work);
    }
    everyCallIsShown();
    everyTestIsNamed(lines);
    System.out.println("readme: " + checks + " checks, " + wrong + " wrong");
    if (wrong != 0) {
      System.exit(1);
    }
  }

  private static void due(boolean isDue, String what) {
    checks++;
    if (!isDue) {
      wrong++;
      System.out.println("README.md: " + what);
    }
  }

  /** Called by what is made of the page's calls. */
  public static void told(int line, Object got, String want) {
    String text = got instanceof Character ? "'" + got + "'" : "" + got;
    due(text.equals(want), "line " + line + " tells " + want + ", but the answer is " + text);
  }

  private static List<Block> blocksOf(List<String> lines) {
    List<Block> found = new ArrayList<>();
    Block open = null;
    for (int k = 0; k < lines.size(); k++) {
      String line = lines.get(k);
      if (!line.startsWith("```")) {
        if (open != null) {
          open.lines().add(line);
        }
      } else if (open == null) {
        open = new Block(line.substring(3), k + 2, new ArrayList<>());
      } else {
        found.add(open);
        open = null;
      }
    }
    due(open == null, "a block has no end");
    return found;
  }

  /** Makes a method of each block of calls, in which each answer is held against the one that is told. */
  private static void callAll(List<Block> blocks, Path work) throws Exception {
    StringBuilder text = new StringBuilder("public final class ReadmeCalls {\n");
    int count = 0;
    for (Block block : blocks) {
      if (block.kind().equals("java")) {
        text.append("public static void block").append(count).append("() {\n");
        for (int k = 0; k < block.lines().size(); k++) {
          text.append(checkedLine(block.lines().get(k), block.line() + k)).append('\n');
        }
        text.append("}\n");
        count++;
      }
    }
    text.append("}\n");
    due(count >= 7, "there are only " + count + " blocks of calls");
    Path file = work.resolve("calls/ReadmeCalls.java");
    Files.createDirectories(file.getParent());
    Files.writeString(file, text, StandardCharsets.UTF_8);
    JavaCompiler compiler = ToolProvider.getSystemJavaCompiler();
    int code = compiler.run(null, null, null, "-cp", System.getProperty("java.class.path"), "-d",
        file.getParent().toString(), file.toString());
    due(code == 0, "its calls do not compile");
    if (code != 0) {
      return;
    }
    try (URLClassLoader loader = new URLClassLoader(new URL[] {file.getParent().toUri().toURL()},
        MaxGardenReadme.class.getClassLoader())) {
      for (int k = 0; k < count; k++) {
        loader.loadClass("ReadmeCalls").getMethod("block" + k).invoke(null);
      }
    }
  }

  private static String checkedLine(String line, int number) {
    if (line.contains("public final class") || line.contains("public static void main") || line.matches("\\s*\\}")
        || line.contains("System.out.println")) {
      return "";
    }
    Matcher told = TOLD.matcher(line);
    if (!told.matches()) {
      due(line.isBlank() || line.contains("new MaxGarden()"), "line " + number + " tells no answer: " + line);
      return line;
    }
    called.add(told.group(3));
    String want = told.group(4).split(": ")[0].replace("\"", "\\\"");
    String name = told.group(1) == null ? "" : told.group(1);
    String call = name.isEmpty() ? told.group(2) : name + " = " + told.group(2);
    String check = "MaxGardenReadme.told(" + number + ", ";
    return (name.isEmpty() ? "" : "int " + name + " = -1; ") + "try { " + check + call + ", \"" + want
        + "\"); } catch (RuntimeException e) { " + check + "\"throws \" + e.getClass().getSimpleName(), \"" + want
        + "\"); }";
  }

  /** The commands, in a copy of the project beside the page's own program; .ci/run runs this very test, so not here. */
  private static void runAll(List<Block> blocks, Path work) throws Exception {
    Path copy = work.resolve("project");
    copyTree(ROOT.resolve("src"), copy.resolve("src"));
    for (Block block : blocks) {
      if (block.text().startsWith("public final class Try ")) {
        Files.writeString(copy.resolve("Try.java"), block.text(), StandardCharsets.UTF_8);
      }
    }
    int commands = 0;
    String printed = "";
    for (Block block : blocks) {
      if (block.kind().equals("text")) {
        due(printed.equals(block.text()), "line " + block.line() + ": what was printed is\n" + printed);
      } else if (block.kind().equals("sh") && block.text().equals(".ci/run\n")) {
        due(Files.isExecutable(ROOT.resolve(".ci/run")), ".ci/run cannot be run");
        commands++;
      } else if (block.kind().equals("sh")) {
        Path out = work.resolve("printed");
        Process process = new ProcessBuilder("bash", "-e", "-c", block.text()).directory(copy.toFile())
            .redirectErrorStream(true).redirectOutput(out.toFile()).start();
        int code = process.waitFor();
        printed = Files.readString(out, StandardCharsets.UTF_8);
        due(code == 0, "line " + block.line() + ": the commands end with " + code + "\n" + printed);
        commands++;
      }
    }
    due(commands == 3, "there are " + commands + " blocks of commands");
  }

  private static void copyTree(Path from, Path to) throws IOException {
    try (Stream<Path> all = Files.walk(from)) {
      for (Path each : (Iterable<Path>) all::iterator) {
        Path target = to.resolve(from.relativize(each).toString());
        if (Files.isDirectory(each)) {
          Files.createDirectories(target);
        } else {
          Files.copy(each, target);
        }
      }
    }
  }

  private static void remove(Path work) throws IOException {
    try (Stream<Path> all = Files.walk(work)) {
      all.sorted(Comparator.reverseOrder()).forEach(each -> {
        try {
          Files.delete(each);
        } catch (IOException e) {
          throw new UncheckedIOException(e);
        }
      });
    }
  }

  private static void everyCallIsShown() {
    for (Method method : MaxGarden.class.getDeclaredMethods()) {
      if (Modifier.isPublic(method.getModifiers())) {
        due(called.contains(method.getName()), "no call of " + method.getName() + " is shown");
      }
    }
  }

  private static void everyTestIsNamed(List<String> lines) throws IOException {
    TreeSet<String> named = new TreeSet<>();
    for (String line : lines) {
      Matcher name = Pattern.compile("- `(MaxGarden\\w+)`:.*").matcher(line);
      if (name.matches()) {
        named.add(name.group(1) + ".java");
      }
    }
    TreeSet<String> found = new TreeSet<>();
    try (Stream<Path> all = Files.list(ROOT.resolve("src/test/java"))) {
      all.forEach(each -> found.add(each.getFileName().toString()));
    }
    due(named.equals(found), "the tests that are named are " + named + ", those that there are " + found);
  }
}
