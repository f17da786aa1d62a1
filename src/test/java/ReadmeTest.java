import java.lang.reflect.Method;
import java.lang.reflect.Modifier;
import java.nio.file.Files;
import java.nio.file.Path;
import java.util.HashMap;
import java.util.Map;
import java.util.Set;
import java.util.TreeSet;
import java.util.regex.Matcher;
import java.util.regex.Pattern;

/** Runs the calls of README.md, line by line: each answers the number behind it, and none is left out. */
public final class ReadmeTest {
  private static final Check CHECK = new Check("ReadmeTest");
  private static final Pattern MAKING = Pattern.compile("GoldLeaves house = new GoldLeaves\\(\\);");
  private static final Pattern CALL =
      Pattern.compile("(?:int (\\w+) = )?house\\.(\\w+)\\(([^)]*)\\); +// (-?\\d+)(?:: .*)?");

  private final Map<String, Integer> named = new HashMap<>();
  private final Set<String> called = new TreeSet<>();
  private GoldLeaves house = null;
  private int calls = 0;

  public static void main(String[] args) throws Exception {
    String readme = Files.readString(Path.of("README.md"));
    ReadmeTest test = new ReadmeTest();
    Matcher blocks = Pattern.compile("(?s)```java\n(.*?)```").matcher(readme);
    while (blocks.find()) {
      for (String line : blocks.group(1).split("\n")) {
        test.run(line);
      }
    }
    test.allCalled();
    CHECK.holds("README.md tells for how many calls an object is used", readme.contains("512 calls"));
    CHECK.holds("README.md tells how the tests are run", readme.contains(".ci/run"));
    everyTestTold(readme);
    CHECK.finish();
  }

  private void run(String line) throws Exception {
    if (MAKING.matcher(line).matches()) {
      house = new GoldLeaves();
      return;
    }
    Matcher call = CALL.matcher(line);
    CHECK.holds("a line that is understood, on a house: " + line, call.matches() && house != null);
    if (!call.matches() || house == null) {
      return;
    }
    long answer = answerOf(call.group(2), call.group(3));
    CHECK.due(line, answer, Long.parseLong(call.group(4)));
    if (call.group(1) != null) {
      named.put(call.group(1), (int) answer);
    }
  }

  private long answerOf(String name, String arguments) throws Exception {
    String[] texts = arguments.isEmpty() ? new String[0] : arguments.split(", ");
    Class<?>[] types = new Class<?>[texts.length];
    Object[] values = new Object[texts.length];
    for (int i = 0; i < texts.length; i++) {
      types[i] = int.class;
      values[i] = named.containsKey(texts[i]) ? named.get(texts[i]) : Integer.decode(texts[i]);
    }
    calls++;
    called.add(name);
    return ((Number) GoldLeaves.class.getMethod(name, types).invoke(house, values)).longValue();
  }

  private void allCalled() {
    for (Method method : GoldLeaves.class.getDeclaredMethods()) {
      if (Modifier.isPublic(method.getModifiers())) {
        CHECK.holds(method.getName() + " is called in README.md", called.contains(method.getName()));
      }
    }
    CHECK.holds("one object is used for at most 512 calls", calls <= 512);
  }

  private static void everyTestTold(String readme) throws Exception {
    try (var files = Files.list(Path.of("src/test/java"))) {
      for (Path file : files.toList()) {
        String name = file.getFileName().toString().replace(".java", "");
        CHECK.holds(name + " stands in README.md", !name.endsWith("Test") || readme.contains("`" + name + "`"));
      }
    }
  }
}
