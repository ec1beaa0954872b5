import java.io.IOException;
import java.lang.reflect.Field;
import java.lang.reflect.Method;
import java.lang.reflect.Modifier;
import java.nio.file.Files;
import java.nio.file.Path;
import java.util.ArrayList;
import java.util.HashMap;
import java.util.HashSet;
import java.util.List;
import java.util.Map;
import java.util.Set;
import java.util.regex.Matcher;
import java.util.regex.Pattern;

/**
 * The rules of ../shared/LANGUAGE.md, as far as the text of the class, or the class as compiled, shows them. This
 * class keeps to less than they leave: no exceptions, no lists, no recursion, nothing made but in constructors.
 */
public final class LanguageTest {
  private static final Path SOURCE = Path.of("src", "main", "java", "TurfHeaps.java");
  private static final int MOST_LINES = 60, MOST_DEEP = 8, MOST_CLASSES = 12, MOST_FIELDS = 20, MOST_PARAMETERS = 7;
  private static final Checks checks = new Checks();

  /** A method or constructor: its name, and the lines from its head to its end. */
  private static final class Part {
    final String name;
    final boolean makesObjects;
    final String text;
    final int lines;

    Part(String name, boolean makesObjects, String text, int lines) {
      this.name = name;
      this.makesObjects = makesObjects;
      this.text = text;
      this.lines = lines;
    }
  }

  public static void main(String[] args) throws IOException {
    String text = Files.readString(SOURCE);
    checks.isTrue("the text is plain", text.chars().allMatch(sign -> sign < 127));
    String code = text.replaceAll("(?s)/\\*.*?\\*/", "").replaceAll("//[^\n]*", "");
    List<Class<?>> classes = new ArrayList<>(List.of(TurfHeaps.class.getDeclaredClasses()));
    classes.add(TurfHeaps.class);
    List<Part> parts = partsOf(code);
    rule1NoOtherBearsAName(classes);
    rule2ClassesInside(code, classes);
    rule3Types(code, classes);
    rule4Library(code);
    rule5StaticFields(code, classes);
    rule6Exceptions(code);
    rule7IndexesLookedAt(parts);
    rule8NoRecursionAndRule11Depth(parts);
    rule9Loops(code);
    rule11Sizes(parts, classes);
    rule12NothingMadeByCalls(parts);
    rule13SameAnswers(code);
    checks.end("LanguageTest");
  }

  private static void noWord(String rule, String code, String... words) {
    for (String word : words) {
      checks.isTrue(rule + ": no " + word, !Pattern.compile("\\b" + word + "\\b").matcher(code).find());
    }
  }

  /** Methods start and end in a column of their own, by their depth. */
  private static List<Part> partsOf(String code) {
    List<Part> parts = new ArrayList<>();
    String[] lines = code.split("\n", -1);
    Pattern head = Pattern.compile("^( {2}| {4})(?! )([A-Za-z\\[\\] ]*?)(\\w+)\\(.*\\) \\{$");
    for (int start = 0; start < lines.length; start++) {
      Matcher matcher = head.matcher(lines[start]);
      if (!matcher.matches() || matcher.group(3).matches("if|for|while|switch")) {
        continue;
      }
      StringBuilder body = new StringBuilder();
      int end = start + 1;
      while (!lines[end].equals(matcher.group(1) + "}")) {
        body.append(lines[end]).append('\n');
        end++;
      }
      String before = matcher.group(2).trim();
      parts.add(new Part(matcher.group(3), before.isEmpty() || before.equals("public"), body.toString(),
          end - start + 1));
      start = end;
    }
    checks.isTrue("the methods are found: " + parts.size(), parts.size() > 70);
    return parts;
  }

  private static void rule1NoOtherBearsAName(List<Class<?>> classes) {
    Set<String> face = new HashSet<>();
    for (Method method : TurfHeaps.class.getDeclaredMethods()) {
      if (Modifier.isPublic(method.getModifiers())) {
        face.add(method.getName());
      }
    }
    checks.equal("rule 1: methods of the face", face.size(), 23);
    for (Class<?> one : classes) {
      for (Method method : one.getDeclaredMethods()) {
        boolean isOfTheFace = one == TurfHeaps.class && Modifier.isPublic(method.getModifiers());
        checks.isTrue("rule 1: named as one of the face: " + method, isOfTheFace || !face.contains(method.getName()));
      }
    }
  }

  private static void rule2ClassesInside(String code, List<Class<?>> classes) {
    checks.isTrue("rule 2: no lambda", !code.contains("->"));
    checks.isTrue("rule 2: no method reference", !code.contains("::"));
    for (Class<?> one : classes) {
      checks.isTrue("rule 2: " + one + " is static", one == TurfHeaps.class || Modifier.isStatic(one.getModifiers()));
      checks.equal("rule 2: no classes in " + one, one == TurfHeaps.class ? 0 : one.getDeclaredClasses().length, 0);
    }
  }

  private static boolean isAllowed(Class<?> type, List<Class<?>> classes) {
    return type == int.class || type == long.class || type == boolean.class || type == void.class
        || type == int[].class || classes.contains(type);
  }

  private static void rule3Types(String code, List<Class<?>> classes) {
    noWord("rule 3", code, "double", "float", "Object", "var", "String", "Integer\\[", "Long");
    for (Class<?> one : classes) {
      for (Field field : one.getDeclaredFields()) {
        checks.isTrue("rule 3: " + field, isAllowed(field.getType(), classes));
      }
      for (Method method : one.getDeclaredMethods()) {
        checks.isTrue("rule 3: " + method, isAllowed(method.getReturnType(), classes));
        for (Class<?> type : method.getParameterTypes()) {
          checks.isTrue("rule 3: " + method, isAllowed(type, classes));
        }
      }
    }
  }

  private static void rule4Library(String code) {
    noWord("rule 4", code, "import", "package", "System", "Thread", "Arrays", "List");
    Set<String> allowed = Set.of("Math.max", "Math.min", "Math.abs", "Math.floorMod", "Integer.bitCount");
    Matcher names = Pattern.compile("\\b([A-Z][A-Za-z]*)\\.([a-zA-Z]+)").matcher(code);
    while (names.find()) {
      checks.isTrue("rule 4: " + names.group(), allowed.contains(names.group()) || names.group(1).equals("Pad"));
    }
  }

  private static void rule5StaticFields(String code, List<Class<?>> classes) {
    checks.isTrue("rule 5: no static block", !Pattern.compile("\\bstatic\\s*\\{").matcher(code).find());
    for (Class<?> one : classes) {
      for (Field field : one.getDeclaredFields()) {
        boolean isStatic = Modifier.isStatic(field.getModifiers());
        boolean isConstant = Modifier.isFinal(field.getModifiers())
            && (field.getType() == int.class || field.getType() == long.class);
        checks.isTrue("rule 5: " + field, !isStatic || isConstant);
      }
    }
  }

  private static void rule6Exceptions(String code) {
    noWord("rule 6", code, "throw", "throws", "try", "catch", "finally", "synchronized", "assert", "instanceof",
        "Exception", "equals", "hashCode", "toString", "yield", "record", "native");
  }

  /**
   * An index is a number that the method counts, was given or has tested (who calls it looks at what it hands over), or
   * one less another; it comes from no array, no call and no remainder, whose ends nobody would have looked at.
   */
  private static void rule7IndexesLookedAt(List<Part> parts) {
    int found = 0;
    for (Part part : parts) {
      String uses = part.text.replaceAll("new int\\[", "new int(");
      Matcher indexes = Pattern.compile("\\w\\[([^\\]]*)").matcher(uses);
      while (indexes.find()) {
        String index = indexes.group(1);
        String where = "rule 7: in " + part.name + " the index " + index;
        boolean isPlain = index.matches("\\w+( - \\w+)*");
        checks.isTrue(where + " is plain", isPlain);
        for (String name : isPlain ? index.split(" - ") : new String[0]) {
          Matcher given = Pattern.compile("\\b" + name + " = ([^;]*);").matcher(uses);
          while (given.find()) {
            checks.isTrue(where + " is not " + given.group(1), !given.group(1).matches(".*[\\[(%/].*"));
          }
        }
        found++;
      }
    }
    checks.isTrue("rule 7: indexes looked at: " + found, found > 40);
  }

  /** Methods of one name are taken as one, so that no way is overlooked. */
  private static void rule8NoRecursionAndRule11Depth(List<Part> parts) {
    Map<String, Set<String>> calls = new HashMap<>();
    for (Part part : parts) {
      calls.computeIfAbsent(part.name, name -> new HashSet<>());
    }
    for (Part part : parts) {
      Matcher called = Pattern.compile("\\b(\\w+)\\(").matcher(part.text);
      while (called.find()) {
        if (calls.containsKey(called.group(1))) {
          calls.get(part.name).add(called.group(1));
        }
      }
    }
    for (String name : calls.keySet()) {
      int deep = depth(name, calls, 0);
      checks.isTrue("rules 8 and 11: calls below " + name + " are " + deep + " deep", deep <= MOST_DEEP);
    }
  }

  private static int depth(String name, Map<String, Set<String>> calls, int above) {
    int most = 0;
    for (String called : calls.get(name)) {
      most = Math.max(most, above > MOST_DEEP ? above : depth(called, calls, above + 1));
    }
    return most + 1;
  }

  private static void rule9Loops(String code) {
    Matcher loops = Pattern.compile("\\b(for|while) \\((.*)\\) \\{").matcher(code);
    int found = 0;
    while (loops.find()) {
      String[] pieces = loops.group(2).split(";", -1);
      String bound = pieces.length == 3 ? pieces[1] : pieces[0];
      checks.isTrue("rule 9: a loop with a bound: " + loops.group(), bound.matches(".*\\w (<|<=|>|>=) .*"));
      found++;
    }
    Matcher words = Pattern.compile("\\b(for|while)\\b").matcher(code);
    checks.equal("rule 9: loops looked at", found, words.results().count());
    noWord("rule 9", code, "do");
  }

  private static void rule11Sizes(List<Part> parts, List<Class<?>> classes) {
    for (Part part : parts) {
      checks.isTrue("rule 11: " + part.name + " is short", part.lines <= MOST_LINES);
    }
    checks.isTrue("rule 11: some twelve classes", classes.size() <= MOST_CLASSES);
    for (Class<?> one : classes) {
      int fields = 0;
      for (Field field : one.getDeclaredFields()) {
        fields += Modifier.isStatic(field.getModifiers()) ? 0 : 1;
      }
      checks.isTrue("rule 11: some twenty fields in " + one, fields <= MOST_FIELDS);
      for (Method method : one.getDeclaredMethods()) {
        checks.isTrue("rule 11: parameters of " + method, method.getParameterCount() <= MOST_PARAMETERS);
      }
    }
  }

  private static void rule12NothingMadeByCalls(List<Part> parts) {
    for (Part part : parts) {
      boolean makes = Pattern.compile("\\bnew\\b|\\.clone\\(|\"").matcher(part.text).find();
      checks.isTrue("rule 12: " + part.name + " makes nothing", part.makesObjects || !makes);
    }
  }

  private static void rule13SameAnswers(String code) {
    noWord("rule 13", code, "random", "Random", "nanoTime", "currentTimeMillis", "File", "Socket", "getenv");
  }
}
