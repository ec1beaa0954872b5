import java.lang.reflect.Constructor;
import java.lang.reflect.Field;
import java.lang.reflect.Method;
import java.lang.reflect.Modifier;
import java.util.Arrays;
import java.util.Set;
import java.util.TreeSet;

/** The public face: every constant, constructor and method of the document, and no other. */
public final class FaceTest {
  private static final String[] METHODS = {
    "int heap(int,int,int,int)", "int burners(int)", "int say(int)", "int wipe()", "int fault()",
    "int judge(int)", "int done()", "int behind(int,int)", "int then(int)",
    "int chain(int)", "int cover(int,int,int)", "int due(int,long,int,int)", "int nods(int,int,int,int,int,int)",
    "int seen(int,int)", "int forget()", "int matter(int)", "int ask(int)", "int takes(int,int)",
    "long lean(int,int,int,int)", "int year(int,int,int)", "int image(int)", "int restore(int)", "int told(int)",
  };
  private static final String[] CONSTANTS = {
    "int FULL", "int NO", "int NONE", "int OUTSIDE", "int STATE", "int UNKNOWN", "long LOST",
  };

  public static void main(String[] args) {
    Checks checks = new Checks();
    checks.equal("NONE", TurfHeaps.NONE, -6);
    checks.equal("UNKNOWN", TurfHeaps.UNKNOWN, -1);
    checks.equal("OUTSIDE", TurfHeaps.OUTSIDE, -2);
    checks.equal("STATE", TurfHeaps.STATE, -3);
    checks.equal("FULL", TurfHeaps.FULL, -4);
    checks.equal("NO", TurfHeaps.NO, -5);
    checks.equal("LOST", TurfHeaps.LOST, -1000000000000000000L);
    classAndConstructor(checks);
    methods(checks);
    fields(checks);
    checks.end("FaceTest");
  }

  private static void classAndConstructor(Checks checks) {
    int modifiers = TurfHeaps.class.getModifiers();
    checks.isTrue("the class is public and final", Modifier.isPublic(modifiers) && Modifier.isFinal(modifiers));
    Constructor<?>[] constructors = TurfHeaps.class.getDeclaredConstructors();
    checks.equal("constructors", constructors.length, 1);
    checks.isTrue("it is public", Modifier.isPublic(constructors[0].getModifiers()));
    checks.equal("its parameters", constructors[0].getParameterCount(), 0);
    for (Class<?> inside : TurfHeaps.class.getDeclaredClasses()) {
      int how = inside.getModifiers();
      checks.isTrue(inside + " is static and not public",
          Modifier.isStatic(how) && !Modifier.isPublic(how) && !Modifier.isProtected(how));
    }
  }

  private static void methods(Checks checks) {
    Set<String> found = new TreeSet<>();
    for (Method method : TurfHeaps.class.getDeclaredMethods()) {
      if (!Modifier.isPrivate(method.getModifiers())) {
        StringBuilder line = new StringBuilder(method.getReturnType() + " " + method.getName() + "(");
        String comma = "";
        for (Class<?> type : method.getParameterTypes()) {
          line.append(comma).append(type);
          comma = ",";
        }
        found.add(line.append(")").toString());
        checks.isTrue(line + " is public, not static",
            Modifier.isPublic(method.getModifiers()) && !Modifier.isStatic(method.getModifiers()));
      }
    }
    Set<String> wanted = new TreeSet<>(Arrays.asList(METHODS));
    checks.isTrue("the methods are those of the document: " + found, found.equals(wanted));
  }

  private static void fields(Checks checks) {
    Set<String> found = new TreeSet<>();
    for (Field field : TurfHeaps.class.getDeclaredFields()) {
      int how = field.getModifiers();
      if (!Modifier.isPrivate(how)) {
        found.add(field.getType() + " " + field.getName());
        checks.isTrue(field + " is a public constant",
            Modifier.isPublic(how) && Modifier.isStatic(how) && Modifier.isFinal(how));
      }
    }
    checks.isTrue("the constants are those of the document: " + found,
        found.equals(new TreeSet<>(Arrays.asList(CONSTANTS))));
  }
}
