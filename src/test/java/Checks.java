import java.util.Arrays;

/** Counts the checks of one test; prints the wrong ones, and ends with exit code 1 if there was one. */
final class Checks {
  private int passed;
  private int failed;

  void equal(String what, long got, long want) {
    if (got == want) {
      passed++;
    } else {
      failed++;
      System.out.println(what + " answered " + got + ", due is " + want);
    }
  }

  void isTrue(String what, boolean holds) {
    if (holds) {
      passed++;
    } else {
      failed++;
      System.out.println("does not hold: " + what);
    }
  }

  /** Says each sign of a text but its spaces. */
  static void say(TurfHeaps x, String text) {
    for (char sign : text.toCharArray()) {
      if (sign != ' ') {
        x.say(sign);
      }
    }
  }

  /** Puts another text on the pad. */
  static void tell(TurfHeaps x, String text) {
    x.wipe();
    say(x, text);
  }

  /** All that can be asked without changing anything: 37 calls. */
  static long[] stateOf(TurfHeaps x) {
    long[] state = new long[37];
    int n = 0;
    for (int what = 0; what <= 6; what++) {
      state[n++] = x.told(what);
    }
    for (int heap = 0; heap < 6; heap++) {
      state[n++] = x.told(10 + heap);
      state[n++] = x.told(20 + heap);
      state[n++] = x.told(30 + heap);
    }
    state[n++] = x.fault();
    state[n++] = x.judge(0);
    state[n++] = x.judge(1);
    for (int what = 0; what <= 6; what++) {
      state[n++] = x.then(what);
    }
    state[n++] = x.matter(-1);
    state[n++] = x.matter(0);
    return state;
  }

  void unchanged(String what, TurfHeaps x, long[] before) {
    long[] after = stateOf(x);
    isTrue(what + " changed nothing: " + Arrays.toString(before) + " " + Arrays.toString(after),
        Arrays.equals(before, after));
  }

  void end(String test) {
    System.out.println(test + ": " + passed + " checks hold, " + failed + " do not");
    if (failed > 0 || passed == 0) {
      System.exit(1);
    }
  }
}
