import java.io.IOException;
import java.lang.reflect.Method;
import java.nio.file.Files;
import java.nio.file.Path;
import java.util.regex.Matcher;
import java.util.regex.Pattern;

/** The examples of README.md on one object: each line's call, and the answer that its comment begins with. */
public final class ReadmeTest {
  private static final Pattern CALL = Pattern.compile("x\\.(\\w+)\\((.*)\\); +// (-?\\d+)[: ].*");
  private static final Checks checks = new Checks();

  public static void main(String[] args) throws IOException, ReflectiveOperationException {
    TurfHeaps x = new TurfHeaps();
    String[] blocks = Files.readString(Path.of("README.md")).split("```");
    int found = 0;
    for (String block : blocks) {
      if (!block.startsWith("java\n")) {
        continue;
      }
      for (String line : block.substring(5).split("\n")) {
        Matcher call = CALL.matcher(line);
        boolean isCall = call.matches();
        checks.isTrue("a call with its answer: " + line, isCall || line.equals("TurfHeaps x = new TurfHeaps();"));
        if (isCall) {
          checks.equal(line, answer(x, call.group(1), call.group(2)), Long.parseLong(call.group(3)));
          found++;
        }
      }
    }
    checks.isTrue("calls found: " + found, found > 30);
    checks.end("ReadmeTest");
  }

  private static long answer(TurfHeaps x, String name, String numbers) throws ReflectiveOperationException {
    String[] texts = numbers.isEmpty() ? new String[0] : numbers.split(", ");
    Class<?>[] types = new Class<?>[texts.length];
    Object[] values = new Object[texts.length];
    for (int i = 0; i < texts.length; i++) {
      String text = texts[i];
      boolean isLong = text.endsWith("L");
      types[i] = isLong ? long.class : int.class;
      if (isLong) {
        values[i] = Long.parseLong(text.substring(0, text.length() - 1));
      } else {
        values[i] = text.startsWith("'") ? (int) text.charAt(1) : Integer.parseInt(text);
      }
    }
    Method method = TurfHeaps.class.getMethod(name, types);
    return ((Number) method.invoke(x, values)).longValue();
  }
}
