import java.io.IOException;
import java.lang.reflect.Method;
import java.nio.file.Files;
import java.nio.file.Path;
import java.util.List;
import java.util.Set;
import java.util.TreeSet;
import java.util.regex.Matcher;
import java.util.regex.Pattern;
import java.util.stream.Collectors;
import java.util.stream.Stream;

/** README.md tells of the class and its tests as they are. */
public final class ReadmeTest {
  private static final Path PAGE = Path.of("README.md");
  private static final Path TESTS = Path.of("src/test/java");
  private static final Pattern CALL = Pattern.compile("x\\.(\\w+)\\((.*)\\); +// (.+)");

  private final Check check = new Check();
  private final Set<String> called = new TreeSet<>();

  public static void main(String[] args) throws IOException {
    ReadmeTest test = new ReadmeTest();
    List<String> lines = Files.readAllLines(PAGE);
    test.makeCalls(lines);
    test.leavesNoCallOut();
    test.namesTests(String.join("\n", lines));
    test.check.end();
  }

  /** The calls of the example, each on the object that the calls above it left. */
  private void makeCalls(List<String> lines) {
    check.about("README.md, the example");
    Valleyfree x = new Valleyfree();
    int begin = lines.indexOf("```java");
    check.is("the first line", lines.get(begin + 1), "Valleyfree x = new Valleyfree();");
    for (int at = begin + 2; !lines.get(at).equals("```"); at++) {
      String line = lines.get(at);
      Matcher call = CALL.matcher(line);
      if (call.matches()) {
        called.add(call.group(1));
        check.is(line, Calls.answer(x, asText(call.group(1), call.group(2))), call.group(3));
      } else {
        check.holds("a line without a call: " + line, line.isEmpty() || line.startsWith("//"));
      }
    }
  }

  private static String asText(String method, String arguments) {
    return (method + " " + arguments.replace(",", "").replace("'", "")).strip();
  }

  private void leavesNoCallOut() {
    for (Method method : Calls.face()) {
      check.holds("shows " + method.getName(), called.contains(method.getName()));
    }
  }

  private void namesTests(String page) throws IOException {
    check.about("README.md, the tests");
    try (Stream<Path> files = Files.list(TESTS)) {
      for (Path file : files.collect(Collectors.toList())) {
        check.holds("names " + file, page.contains(file.getFileName().toString()));
      }
    }
    Matcher named = Pattern.compile("`(src/test/java/)?(\\w+\\.java)`").matcher(page);
    while (named.find()) {
      check.holds("there is " + named.group(2), Files.exists(TESTS.resolve(named.group(2))));
    }
  }
}
