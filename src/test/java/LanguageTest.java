import java.io.IOException;
import java.lang.reflect.Field;
import java.lang.reflect.Method;
import java.lang.reflect.Modifier;
import java.nio.file.Files;
import java.nio.file.Path;
import java.util.Set;
import java.util.regex.Matcher;
import java.util.regex.Pattern;

/** Those rules of ../shared/LANGUAGE.md that the text of the class, or the class as compiled, shows at once. */
public final class LanguageTest {
  private static final Path SOURCE = Path.of("src", "main", "java", "TurfHeaps.java");
  private static final Checks checks = new Checks();

  public static void main(String[] args) throws IOException {
    String text = Files.readString(SOURCE);
    checks.isTrue("the text is plain", text.chars().allMatch(sign -> sign < 127));
    String code = text.replaceAll("(?s)/\\*.*?\\*/", "").replaceAll("//[^\n]*", "");
    forbiddenWords(code);
    libraryNames(code);
    sizes(code);
    for (Class<?> one : TurfHeaps.class.getDeclaredClasses()) {
      compiled(one);
    }
    compiled(TurfHeaps.class);
    checks.end("LanguageTest");
  }

  private static void forbiddenWords(String code) {
    String[] words = {"import", "package", "throw", "throws", "try", "catch", "finally", "synchronized", "assert",
        "native", "Object", "System", "Thread", "double", "float", "yield", "var", "while \\(true\\)"};
    for (String word : words) {
      checks.isTrue("no " + word, !Pattern.compile("\\b" + word + "\\b").matcher(code).find());
    }
    checks.isTrue("no lambda", !code.contains("->"));
    checks.isTrue("no method reference", !code.contains("::"));
    checks.isTrue("no static block", !Pattern.compile("\\bstatic\\s*\\{").matcher(code).find());
    checks.isTrue("no loop without a condition", !Pattern.compile("for \\([^;]*;\\s*;").matcher(code).find());
  }

  private static void libraryNames(String code) {
    Set<String> allowed = Set.of("Math.max", "Math.min", "Math.abs", "Integer.bitCount");
    Set<String> own = Set.of("Pad");
    Matcher names = Pattern.compile("\\b([A-Z][A-Za-z]*)\\.([a-zA-Z]+)").matcher(code);
    while (names.find()) {
      checks.isTrue("may be used: " + names.group(), allowed.contains(names.group()) || own.contains(names.group(1)));
    }
  }

  /** Methods start and end in a column of their own, by their depth. */
  private static void sizes(String code) {
    String[] lines = code.split("\n", -1);
    String end = null;
    int start = 0;
    for (int i = 0; i < lines.length; i++) {
      Matcher head = Pattern.compile("^( {2}| {4})(?! ).*\\) \\{$").matcher(lines[i]);
      if (end == null && head.matches() && !lines[i].contains("class")) {
        end = head.group(1) + "}";
        start = i;
      } else if (lines[i].equals(end)) {
        checks.isTrue("short: " + lines[start], i - start <= 60);
        end = null;
      }
    }
  }

  private static void compiled(Class<?> one) {
    checks.isTrue(one + " is static", one == TurfHeaps.class || Modifier.isStatic(one.getModifiers()));
    int fields = 0;
    for (Field field : one.getDeclaredFields()) {
      boolean isStatic = Modifier.isStatic(field.getModifiers());
      checks.isTrue(field + ": static fields are final", !isStatic || Modifier.isFinal(field.getModifiers()));
      fields += isStatic ? 0 : 1;
    }
    checks.isTrue(one + " has some twenty fields at the most", fields <= 20);
    for (Method method : one.getDeclaredMethods()) {
      checks.isTrue(method + ": seven parameters at the most", method.getParameterCount() <= 7);
    }
  }
}
