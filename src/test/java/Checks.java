import java.util.Arrays;

/** Counts the checks of one test; prints the wrong ones, and ends with exit code 1 if there was one. */
final class Checks {
  private int passed;
  private int failed;
  private int sentences;
  private String sentence = "";
  private int checksOfSentence;

  /** Says which words of the document the checks from here on are for, and what promise these belong to. */
  void about(int promise, String words) {
    endSentence();
    sentences++;
    sentence = "promise " + promise + " (" + words + "): ";
    checksOfSentence = 0;
  }

  private void endSentence() {
    if (!sentence.isEmpty() && checksOfSentence == 0) {
      failed++;
      System.out.println(sentence + "nothing was checked");
    }
  }

  void equal(String what, long got, long want) {
    note(what + " answered " + got + ", due is " + want, got == want);
  }

  void isTrue(String what, boolean holds) {
    note("does not hold: " + what, holds);
  }

  private void note(String wrong, boolean holds) {
    checksOfSentence++;
    if (holds) {
      passed++;
    } else {
      failed++;
      System.out.println(sentence + wrong);
    }
  }

  /** Says each sign of a text but its spaces. */
  static void say(TurfHeaps x, String text) {
    for (char sign : text.toCharArray()) {
      if (sign != ' ') {
        x.say(sign);
      }
    }
  }

  /** Puts another text on the pad. */
  static void tell(TurfHeaps x, String text) {
    x.wipe();
    say(x, text);
  }

  /** Puts another text on the pad and does it, which must answer so many acts. */
  void does(TurfHeaps x, String text, int acts) {
    tell(x, text);
    equal("done() of '" + text + "'", x.done(), acts);
  }

  /** A new object on which so many nights have gone. */
  TurfHeaps late(int night) {
    TurfHeaps x = new TurfHeaps();
    does(x, ".".repeat(night / 2), night / 2);
    does(x, ".".repeat(night - night / 2), night - night / 2);
    return x;
  }

  /** Another text, judged: the first act that can not be, and why. */
  void judged(TurfHeaps x, String text, int act, int why) {
    tell(x, text);
    equal("judge(0) of '" + text + "'", x.judge(0), act);
    equal("judge(1) of '" + text + "'", x.judge(1), why);
  }

  /** All that can be asked without changing anything: 37 calls. */
  static long[] stateOf(TurfHeaps x) {
    long[] state = new long[37];
    int n = 0;
    for (int what = 0; what <= 6; what++) {
      state[n++] = x.told(what);
    }
    for (int heap = 0; heap < 6; heap++) {
      state[n++] = x.told(10 + heap);
      state[n++] = x.told(20 + heap);
      state[n++] = x.told(30 + heap);
    }
    state[n++] = x.fault();
    state[n++] = x.judge(0);
    state[n++] = x.judge(1);
    for (int what = 0; what <= 6; what++) {
      state[n++] = x.then(what);
    }
    state[n++] = x.matter(-1);
    state[n++] = x.matter(0);
    return state;
  }

  void unchanged(String what, TurfHeaps x, long[] before) {
    long[] after = stateOf(x);
    isTrue(what + " changed nothing: " + Arrays.toString(before) + " " + Arrays.toString(after),
        Arrays.equals(before, after));
  }

  void end(String test) {
    endSentence();
    String told = sentences > 0 ? sentences + " sentences, " : "";
    System.out.println(test + ": " + told + passed + " checks hold, " + failed + " do not");
    if (failed > 0 || passed == 0) {
      System.exit(1);
    }
  }
}
