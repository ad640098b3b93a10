import java.io.IOException;
import java.lang.reflect.Method;
import java.nio.file.Files;
import java.nio.file.Path;
import java.util.List;
import java.util.regex.Matcher;
import java.util.regex.Pattern;
import java.util.stream.Stream;

/** That the README's example answers what it says, and that the README names every test. */
public final class ReadmeTest {
  private static final Pattern CALL = Pattern.compile("x\\.(\\w+)\\(([^)]*)\\); +// (-?\\d+)\\b.*");
  private static final Due due = new Due("ReadmeTest");

  public static void main(String[] args) throws IOException, ReflectiveOperationException {
    List<String> lines = Files.readAllLines(Path.of("README.md"));
    exampleIsTrue(lines);
    testsAreNamed(String.join("\n", lines));
    due.end();
  }

  private static void exampleIsTrue(List<String> lines) throws ReflectiveOperationException {
    HeathFire x = new HeathFire();
    int calls = 0;
    for (String line : lines) {
      if (line.startsWith("x.")) {
        Matcher call = CALL.matcher(line);
        due.is("calls and answer to be read from: " + line, call.matches() ? 1 : 0, 1);
        if (call.matches()) {
          due.is(line, answer(x, call.group(1), call.group(2)), Integer.parseInt(call.group(3)));
          calls++;
        }
      }
    }
    due.is("whether there is an example", calls > 0 ? 1 : 0, 1);
  }

  private static int answer(HeathFire x, String name, String numbers) throws ReflectiveOperationException {
    String[] parts = numbers.isEmpty() ? new String[0] : numbers.split(", ");
    Class<?>[] types = new Class<?>[parts.length];
    Object[] values = new Object[parts.length];
    for (int i = 0; i < parts.length; i++) {
      types[i] = int.class;
      values[i] = Integer.valueOf(parts[i]);
    }
    Method method = HeathFire.class.getMethod(name, types);
    return (Integer) method.invoke(x, values);
  }

  private static void testsAreNamed(String readme) throws IOException {
    try (Stream<Path> files = Files.list(Path.of("src/test/java"))) {
      for (Path file : files.toList()) {
        String name = file.getFileName().toString().replace(".java", "");
        due.is("whether the README names " + name, readme.contains("`" + name + "`") ? 1 : 0, 1);
      }
    }
  }
}
