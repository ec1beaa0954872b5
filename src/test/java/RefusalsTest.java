import java.lang.reflect.InvocationTargetException;
import java.lang.reflect.Method;
import java.util.ArrayList;
import java.util.Arrays;
import java.util.List;

/**
 * Every call with every choice of numbers at, beside and far from the ends that the document names, on objects in
 * several states, compared with the plain model: the answer of a refused call is the first that fits (UNKNOWN,
 * OUTSIDE, NO, STATE, FULL), it changes nothing, and nothing is thrown.
 */
public final class RefusalsTest {
  private static final int MIN = Integer.MIN_VALUE, MAX = Integer.MAX_VALUE;
  private static final int[] HEAP = {MIN, -1, 0, 1, 2, 5, 6, MAX};
  private static final int[] CELL = {MIN, -6, -2, -1, 0, 12, 24, 25, MAX};
  private static final int[] TO_9 = {MIN, -1, 0, 9, 10, MAX};
  private static final int[] FROM_1_TO_9 = {-1, 0, 1, 9, 10};
  private static final int[] TO_1 = {MIN, -1, 0, 1, 2, MAX};
  private static final int[] TO_2 = {MIN, -1, 0, 1, 2, 3, MAX};
  private static final int[] TO_6 = {MIN, -1, 0, 1, 2, 3, 5, 6, 7, MAX};
  private static final int[] SIGN = {MIN, -1, 32, 33, 46, 65, 97, 126, 127, 256 + 46, MAX};
  private static final int[] TOLD = {MIN, -1, 0, 6, 7, 9, 10, 15, 16, 20, 25, 26, 30, 35, 36, 40, MAX};
  private static final int STATES = 8;
  private static final Checks checks = new Checks();

  public static void main(String[] args) throws ReflectiveOperationException {
    inEachState("heap", HEAP, CELL, TO_9, TO_9);
    inEachState("burners", TO_6);
    inEachState("say", SIGN);
    inEachState("wipe");
    inEachState("fault");
    inEachState("judge", TO_1);
    inEachState("done");
    inEachState("behind", HEAP, TO_2);
    inEachState("then", TO_6);
    inEachState("chain", HEAP);
    inEachState("cover", HEAP, HEAP, TO_1);
    inEachState("seen", new int[] {MIN, -1, 0, 1, 20, 21, MAX}, TO_6);
    inEachState("forget");
    inEachState("matter", new int[] {MIN, -6, -2, -1, 0, 6, 7, 48, 49, MAX});
    inEachState("ask", TO_1);
    inEachState("year", new int[] {MIN, -1, 0, 9999, 10000, MAX}, new int[] {MIN, -1, 0, 1, 99, 100, MAX}, TO_2);
    inEachState("image", TO_1);
    inEachState("restore", TO_1);
    inEachState("told", TOLD);
    each(0, "nods", FROM_1_TO_9, FROM_1_TO_9, FROM_1_TO_9, FROM_1_TO_9, new int[] {-1, 0, 9999, 10000}, TO_1);
    each(0, "takes", new int[] {MIN, -1, 0, 1, 24, 61, MAX}, TO_1);
    each(0, "lean", new int[] {MIN, -1, 0, 1, 8, 9, MAX}, new int[] {MIN, -1, 0, 1, 10, 11, MAX}, TO_1, TO_1);
    duties();
    checks.end("RefusalsTest");
  }

  private static void inEachState(String name, int[]... numbers) throws ReflectiveOperationException {
    for (int state = 0; state < STATES; state++) {
      each(state, name, numbers);
    }
  }

  /** Each choice of one number from each row. */
  private static void each(int state, String name, int[]... numbers) throws ReflectiveOperationException {
    int choices = 1;
    for (int[] row : numbers) {
      choices *= row.length;
    }
    for (int choice = 0; choice < choices; choice++) {
      Object[] chosen = new Object[numbers.length];
      int rest = choice;
      for (int i = 0; i < numbers.length; i++) {
        chosen[i] = numbers[i][rest % numbers[i].length];
        rest /= numbers[i].length;
      }
      compare(state, name, chosen);
    }
  }

  private static void duties() throws ReflectiveOperationException {
    int[] nights = {MIN, -11, -1, 0, 1, 9, 10, 11, 101, 99999999, 100000000, 111111111, MAX};
    long[] days = {Long.MIN_VALUE, -1, 0, 1, 99, 100, 9999, 10000, 1L << 32, 9999999999999999L, 10000000000000000L,
        Long.MAX_VALUE};
    int[] counts = {MIN, -1, 0, 1, 2, 3, 8, 9, MAX};
    for (int night : nights) {
      for (long day : days) {
        for (int n : counts) {
          for (int what : TO_1) {
            compare(0, "due", night, day, n, what);
          }
        }
      }
    }
  }

  private static void compare(int state, String name, Object... numbers) throws ReflectiveOperationException {
    TurfHeaps x = new TurfHeaps();
    Model model = new Model();
    bring(x, state);
    bring(model, state);
    String call = "state " + state + ": " + name + Arrays.toString(numbers);
    long want = answer(model, name, numbers);
    try {
      checks.equal(call, answer(x, name, numbers), want);
    } catch (InvocationTargetException thrown) {
      checks.isTrue(call + " threw " + thrown.getCause(), false);
    }
    List<Long> now = stateOf(x);
    List<Long> due = stateOf(model);
    checks.isTrue(call + ": " + now + " behind it, due is " + due, now.equals(due));
  }

  private static long answer(Object target, String name, Object... numbers) throws ReflectiveOperationException {
    Class<?>[] types = new Class<?>[numbers.length];
    for (int i = 0; i < numbers.length; i++) {
      types[i] = numbers[i] instanceof Long ? long.class : int.class;
    }
    Method method = target.getClass().getDeclaredMethod(name, types);
    return ((Number) method.invoke(target, numbers)).longValue();
  }

  private static List<Long> stateOf(Object target) throws ReflectiveOperationException {
    List<Long> state = new ArrayList<>();
    for (int what = 0; what <= 35; what++) {
      state.add(answer(target, "told", what));
    }
    state.add(answer(target, "fault"));
    state.add(answer(target, "judge", 0));
    state.add(answer(target, "matter", -1));
    state.add(answer(target, "matter", 0));
    return state;
  }

  private static void say(Object target, String text) throws ReflectiveOperationException {
    for (char sign : text.toCharArray()) {
      answer(target, "say", (int) sign);
    }
  }

  private static void sights(Object target, int... colours) throws ReflectiveOperationException {
    for (int night = 0; night < colours.length; night++) {
      answer(target, "seen", night % 6, colours[night]);
    }
  }

  /** 0 new; 1 a clearing with something of each; 2 to 5 with a pad; 6 and 7 with all sights, late, all alight. */
  private static void bring(Object target, int state) throws ReflectiveOperationException {
    if (state == 0) {
      return;
    }
    if (state >= 6) {
      say(target, ".".repeat(60));
      answer(target, "done");
      say(target, ".".repeat(state == 6 ? 38 : 39));
      answer(target, "done");
    }
    answer(target, "heap", 0, 0, 9, 0);
    answer(target, "heap", 1, 24, 0, 9);
    answer(target, "heap", 2, 12, state >= 6 ? 9 : 1, 9);
    answer(target, "heap", 3, 6, 9, 2);
    answer(target, "heap", 5, 8, 8, 2);
    say(target, "A^C^.");
    answer(target, "done");
    if (state == 7) {
      answer(target, "burners", 6);
      answer(target, "image", 1);
    }
    sights(target, state == 5 ? new int[] {3, 3, 3, 4} : state >= 6 ? new int[] {3, 5, 0, 2, 4, 6, 3, 5} : new int[0]);
    String[] pads = {"", "", "A+B", "A-", ".B+", ".".repeat(59) + "E", ".".repeat(60), "Ey"};
    say(target, pads[state]);
  }
}
