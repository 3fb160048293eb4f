import java.lang.reflect.Method;
import java.nio.file.Files;
import java.nio.file.Path;
import java.util.List;
import java.util.regex.Matcher;
import java.util.regex.Pattern;
import java.util.stream.Stream;

/** The calls that README.md shows answer what it says: each is one line with its answer first in the comment. */
public final class ReadmeTest {
  private static final Pattern NEW = Pattern.compile("RunRows \\w+ = new RunRows\\(\\);.*");
  private static final Pattern CALL = Pattern.compile("\\w+\\.(\\w+)\\(([^)]*)\\);\\s+// ([-\\w]+).*");

  private static final Due due = new Due("ReadmeTest");

  public static void main(String[] args) throws Exception {
    RunRows x = null;
    int calls = 0;
    boolean isCode = false;
    for (String line : Files.readAllLines(Path.of("README.md"))) {
      if (line.startsWith("```")) {
        isCode = line.equals("```java");
      } else if (isCode && NEW.matcher(line).matches()) {
        x = new RunRows();
      } else if (isCode && !line.isBlank()) {
        call(x, line);
        calls++;
      }
    }
    due.is("README.md shows calls", calls > 0, true);
    due.end();
  }

  private static void call(RunRows x, String line) throws Exception {
    Matcher m = CALL.matcher(line);
    due.is("a call with its answer: " + line, m.matches(), true);
    if (m.matches()) {
      Method method = named(m.group(1));
      Object answer = method.invoke(x, numbers(m.group(2)));
      if (method.getReturnType() != void.class) {
        due.is(line, answer.toString(), m.group(3));
      }
    }
  }

  private static Method named(String name) {
    List<Method> all = Stream.of(RunRows.class.getMethods()).filter(m -> m.getName().equals(name)).toList();
    due.is("methods named " + name, all.size(), 1);
    return all.get(0);
  }

  private static Object[] numbers(String list) {
    return list.isBlank() ? new Object[0] : Stream.of(list.split(", ")).map(Long::decode).map(Long::intValue).toArray();
  }
}
