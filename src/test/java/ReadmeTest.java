import java.io.IOException;
import java.io.UncheckedIOException;
import java.lang.reflect.Method;
import java.lang.reflect.Modifier;
import java.nio.file.Files;
import java.nio.file.Path;
import java.util.ArrayList;
import java.util.LinkedHashMap;
import java.util.List;
import java.util.Map;
import java.util.regex.Matcher;
import java.util.regex.Pattern;
import java.util.stream.Stream;

/** README.md: its example is run as it stands there, and its tables leave nothing out. */
public final class ReadmeTest {
  private static final Path README = Path.of("README.md");
  private static final Path TESTS = Path.of("src/test/java");
  private static final Pattern ANSWER = Pattern.compile("(?:int|short|boolean|float) (\\w+) = .*; +// ([^:]+)(?::.*)?");

  public static void main(String[] args) {
    Check.holds("README.md: the example's answers", ReadmeTest::answersAreAsTold);
    Check.holds("README.md: the example's calls", ReadmeTest::callsAreThoseRunHere);
    Check.holds("README.md: every call of the face", ReadmeTest::everyCallIsTold);
    Check.holds("README.md: every test", ReadmeTest::everyTestIsTold);
    Check.end("ReadmeTest");
  }

  // The lines between the two marks are those of README.md without its comments; callsAreThoseRunHere sees to it.
  private static Map<String, Object> example() {
    // example begins
    DiffDesk desk = new DiffDesk(40);
    desk.feed(0, (short) 1);
    desk.feed(0, (short) 2);
    desk.feed(0, (short) 3);
    desk.feed(0, (short) 4);
    desk.feed(1, (short) 1);
    desk.feed(1, (short) 9);
    desk.feed(1, (short) 3);
    desk.feed(1, (short) 4);
    desk.feed(2, (short) 1);
    desk.feed(2, (short) 2);
    desk.feed(2, (short) 3);
    boolean fed = desk.feed(2, (short) 5);
    boolean noRow = desk.feed(3, (short) 5);
    int size = desk.size(0);
    short symbol = desk.symbol(1, 1);
    int operations = desk.diff(0, 1);
    int kind = desk.operation(0, 0);
    int place = desk.operation(1, 1);
    int inserted = desk.operation(1, 2);
    int hunks = desk.hunks(1);
    int begin = desk.hunk(1, 0, 0);
    int symbols = desk.hunk(1, 0, 1);
    int insertions = desk.hunk(1, 0, 2);
    int deletions = desk.hunk(1, 0, 3);
    float alike = desk.alike(0, 1);
    int patched = desk.patch(0);
    int second = desk.result(1);
    desk.forget();
    desk.load(1, 0, 7);
    boolean loaded = desk.load(0, 3, 5);
    int byHand = desk.patch(2);
    int conflicts = desk.merge();
    int results = desk.results();
    boolean cleared = desk.clear(2);
    int conflictsNow = desk.merge();
    int mark = desk.result(0);
    int nothing = desk.result(7);
    // example ends
    Map<String, Object> answers = new LinkedHashMap<>();
    answers.put("fed", fed);
    answers.put("noRow", noRow);
    answers.put("size", size);
    answers.put("symbol", symbol);
    answers.put("operations", operations);
    answers.put("kind", kind);
    answers.put("place", place);
    answers.put("inserted", inserted);
    answers.put("hunks", hunks);
    answers.put("begin", begin);
    answers.put("symbols", symbols);
    answers.put("insertions", insertions);
    answers.put("deletions", deletions);
    answers.put("alike", alike);
    answers.put("patched", patched);
    answers.put("second", second);
    answers.put("loaded", loaded);
    answers.put("byHand", byHand);
    answers.put("conflicts", conflicts);
    answers.put("results", results);
    answers.put("cleared", cleared);
    answers.put("conflictsNow", conflictsNow);
    answers.put("mark", mark);
    answers.put("nothing", nothing);
    return answers;
  }

  private static void answersAreAsTold() {
    Map<String, String> told = new LinkedHashMap<>();
    for (String line : block(lines(README), "```java", "```")) {
      Matcher answer = ANSWER.matcher(line);
      if (answer.matches()) {
        told.put(answer.group(1), answer.group(2));
      }
    }
    Map<String, String> found = new LinkedHashMap<>();
    example().forEach((name, answer) -> found.put(name, answer.toString()));
    Check.due("the answers", found, told);
  }

  private static void callsAreThoseRunHere() {
    List<String> here = block(lines(TESTS.resolve("ReadmeTest.java")), "// example begins", "// example ends");
    Check.due("the calls", code(here), code(block(lines(README), "```java", "```")));
  }

  private static void everyCallIsTold() {
    String example = String.join("\n", block(lines(README), "```java", "```"));
    String all = String.join("\n", lines(README));
    for (Method method : DiffDesk.class.getDeclaredMethods()) {
      if (Modifier.isPublic(method.getModifiers())) {
        Check.due(method.getName() + " in the example", example.contains("desk." + method.getName() + "("), true);
        Check.due(method.getName() + " in the table", all.contains("| `" + method.getName() + "("), true);
      }
    }
  }

  private static void everyTestIsTold() {
    String all = String.join("\n", lines(README));
    try (Stream<Path> files = Files.list(TESTS)) {
      files.map(file -> file.getFileName().toString().replace(".java", "")).filter(name -> name.endsWith("Test"))
          .forEach(name -> Check.due(name + " in the table", all.contains("| `" + name + "` |"), true));
    } catch (IOException e) {
      throw new UncheckedIOException(e);
    }
  }

  private static List<String> lines(Path file) {
    try {
      return Files.readAllLines(file);
    } catch (IOException e) {
      throw new UncheckedIOException(e);
    }
  }

  /** The lines behind the first one that is begin, up to the next one that is end. */
  private static List<String> block(List<String> lines, String begin, String end) {
    List<String> stripped = lines.stream().map(String::strip).toList();
    int from = stripped.indexOf(begin) + 1;
    int size = stripped.subList(from, stripped.size()).indexOf(end);
    return stripped.subList(from, from + size);
  }

  private static List<String> code(List<String> lines) {
    List<String> code = new ArrayList<>();
    for (String line : lines) {
      String bare = line.replaceAll("//.*", "").strip();
      if (!bare.isEmpty()) {
        code.add(bare);
      }
    }
    return code;
  }
}
