/** Promises 15 to 18: seen, forget, matter, ask. */
public final class ThreadTest {
  private static final int NONE = TurfHeaps.NONE, OUTSIDE = TurfHeaps.OUTSIDE, FULL = TurfHeaps.FULL;
  private static final Checks checks = new Checks();

  public static void main(String[] args) {
    promise15Seen();
    promise15SeenRefused();
    promise16Forget();
    promise17Matter();
    promise18Ask();
    promise18AskRefused();
    checks.end("ThreadTest");
  }

  private static void promise15Seen() {
    TurfHeaps x = new TurfHeaps();
    checks.equal("first", x.seen(0, 0), 1);
    checks.equal("the last night, the last colour", x.seen(20, 6), 2);
    checks.equal("the same again", x.seen(20, 6), 3);
    checks.equal("another colour on that night", x.seen(20, 5), 4);
    checks.equal("told", x.told(6), 4);
  }

  private static void promise15SeenRefused() {
    TurfHeaps x = new TurfHeaps();
    x.seen(1, 1);
    long[] before = Checks.stateOf(x);
    checks.equal("night 21", x.seen(21, 0), OUTSIDE);
    checks.equal("night -1", x.seen(-1, 0), OUTSIDE);
    checks.equal("colour 7", x.seen(0, 7), OUTSIDE);
    checks.equal("colour -1", x.seen(0, -1), OUTSIDE);
    checks.equal("both far off", x.seen(Integer.MAX_VALUE, Integer.MIN_VALUE), OUTSIDE);
    checks.unchanged("seen outside", x, before);
    for (int i = 2; i <= 8; i++) {
      checks.equal("sight " + i, x.seen(1, 1), i);
    }
    before = Checks.stateOf(x);
    checks.equal("one more than eight", x.seen(2, 2), FULL);
    checks.equal("outside before full", x.seen(21, 2), OUTSIDE);
    checks.unchanged("seen, full", x, before);
  }

  private static void promise16Forget() {
    TurfHeaps x = new TurfHeaps();
    checks.equal("nothing yet", x.forget(), 0);
    x.seen(3, 2);
    x.seen(4, 2);
    checks.equal("two", x.forget(), 2);
    checks.equal("told", x.told(6), 0);
    checks.equal("all fits again", x.matter(-1), 49);
    checks.equal("none again", x.forget(), 0);
    checks.equal("seen anew", x.seen(0, 1), 1);
    checks.equal("only that one is so", x.matter(-1), 7);
    for (int i = 2; i <= 8; i++) {
      x.seen(0, 1);
    }
    checks.equal("eight", x.forget(), 8);
  }

  private static void promise17Matter() {
    TurfHeaps x = new TurfHeaps();
    checks.equal("all", x.matter(-1), 49);
    for (int i = 0; i < 49; i++) {
      checks.equal("the " + i + "th of all", x.matter(i), i / 7 * 10 + i % 7);
    }
    int[] none = {49, 50, -2, -3, Integer.MAX_VALUE, Integer.MIN_VALUE};
    for (int i : none) {
      checks.equal("the " + i + "th of all", x.matter(i), NONE);
    }
    x.seen(3, 4);
    // m and 3 a leave 4 by 7: a is 6, 1, 3, 5, 0, 2, 4 for m from 0 to 6.
    int[] fits = {6, 11, 23, 35, 40, 52, 64};
    checks.equal("behind three nights", x.matter(-1), 7);
    for (int i = 0; i < 7; i++) {
      checks.equal("the " + i + "th by one sight", x.matter(i), fits[i]);
    }
    checks.equal("the 7th by one sight", x.matter(7), NONE);
    x.seen(20, 1);
    // Night 20 is as night 6: the three nights between make it less by 3, so that a is 6.
    checks.equal("one is left", x.matter(-1), 1);
    checks.equal("which", x.matter(0), 6);
    checks.equal("no second", x.matter(1), NONE);
    x.seen(0, 1);
    checks.equal("nothing fits", x.matter(-1), 0);
    checks.equal("no first", x.matter(0), NONE);
    checks.equal("no -2nd", x.matter(-2), NONE);
  }

  private static void asked(TurfHeaps x, int night, int left) {
    checks.equal("ask(0)", x.ask(0), night);
    checks.equal("ask(1)", x.ask(1), left);
  }

  private static void promise18Ask() {
    TurfHeaps x = new TurfHeaps();
    asked(x, 0, 7);
    x.seen(0, 2);
    asked(x, 1, 1);
    x.forget();
    x.seen(1, 2);
    asked(x, 0, 1);
    x.forget();
    x.seen(14, 6);
    asked(x, 1, 1);
    x.seen(0, 6);
    asked(x, 1, 1);
    x.seen(15, 6);
    asked(x, 0, 1);
    x.seen(15, 5);
    asked(x, NONE, NONE);
    x.forget();
    asked(x, 0, 7);
  }

  private static void promise18AskRefused() {
    TurfHeaps x = new TurfHeaps();
    long[] before = Checks.stateOf(x);
    checks.equal("what 2", x.ask(2), OUTSIDE);
    checks.equal("what -1", x.ask(-1), OUTSIDE);
    checks.unchanged("ask refused", x, before);
    x.seen(0, 0);
    x.seen(0, 1);
    checks.equal("outside, though nothing fits", x.ask(2), OUTSIDE);
  }
}
