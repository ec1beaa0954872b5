/** Each edge that the document names for seen, forget, matter and ask: promises 15 to 18. */
public final class EdgeThreadTest {
  private static final int NONE = TurfHeaps.NONE, OUTSIDE = TurfHeaps.OUTSIDE, FULL = TurfHeaps.FULL;
  private static final int[] FAR_OFF = {Integer.MIN_VALUE, -65536, 256, 65536, Integer.MAX_VALUE};
  private static final Checks checks = new Checks();

  public static void main(String[] args) {
    promise15NightsZeroTo20();
    promise15ColoursZeroTo6();
    promise15EightAtMost();
    promise15OutsideBeforeFull();
    promise15OutsideChangesNothing();
    promise15FullChangesNothing();
    promise16HowManyThereWere();
    promise16SightsGo();
    promise16NothingElseGoes();
    promise17HowManyAtMinusOne();
    promise17TheIthRising();
    promise17NoneBehindTheLast();
    promise17NoneBelowMinusOne();
    promise17NothingFits();
    promise17EachNightAndColour();
    promise17AllSights();
    promise17LeftOverBySeven();
    promise18NightZeroOfAll();
    promise18TheLeastNight();
    promise18HowManyAtTheMost();
    promise18NothingFits();
    promise18Outside();
    promise18OutsideThoughNothingFits();
    promise18ChangesNothing();
    checks.end("EdgeThreadTest");
  }

  private static TurfHeaps eight() {
    TurfHeaps x = new TurfHeaps();
    for (int i = 0; i < 8; i++) {
      x.seen(i, (2 + 3 * i) % 7);
    }
    return x;
  }

  private static void promise15NightsZeroTo20() {
    checks.about(15, "behind i nights (0 to 20); OUTSIDE");
    TurfHeaps x = new TurfHeaps();
    for (int night = 0; night <= 20; night++) {
      x.forget();
      checks.equal("seen(" + night + ", 0)", x.seen(night, 0), 1);
    }
    checks.equal("seen(21, 0)", x.seen(21, 0), OUTSIDE);
    checks.equal("seen(-1, 0)", x.seen(-1, 0), OUTSIDE);
    for (int night : FAR_OFF) {
      checks.equal("seen(" + night + ", 0)", x.seen(night, 0), OUTSIDE);
    }
  }

  private static void promise15ColoursZeroTo6() {
    checks.about(15, "its colour was v (0 to 6); OUTSIDE");
    TurfHeaps x = new TurfHeaps();
    for (int v = 0; v <= 6; v++) {
      checks.equal("seen(3, " + v + ")", x.seen(3, v), v + 1);
    }
    checks.equal("seen(3, 7)", x.seen(3, 7), OUTSIDE);
    checks.equal("seen(3, -1)", x.seen(3, -1), OUTSIDE);
    for (int v : FAR_OFF) {
      checks.equal("seen(3, " + v + ")", x.seen(3, v), OUTSIDE);
    }
  }

  private static void promise15EightAtMost() {
    checks.about(15, "SIGHTS, 8 at most; how many; FULL");
    TurfHeaps x = new TurfHeaps();
    for (int i = 1; i <= 8; i++) {
      checks.equal("sight " + i, x.seen(20, 6), i);
    }
    checks.equal("sight 9", x.seen(20, 6), FULL);
    checks.equal("and again", x.seen(0, 0), FULL);
    checks.equal("told(6)", x.told(6), 8);
  }

  private static void promise15OutsideBeforeFull() {
    checks.about(15, "OUTSIDE before FULL");
    TurfHeaps x = eight();
    checks.equal("night 21", x.seen(21, 0), OUTSIDE);
    checks.equal("night -1", x.seen(-1, 0), OUTSIDE);
    checks.equal("colour 7", x.seen(0, 7), OUTSIDE);
    checks.equal("colour -1", x.seen(0, -1), OUTSIDE);
    checks.equal("none of these", x.seen(0, 0), FULL);
  }

  private static void promise15OutsideChangesNothing() {
    checks.about(15, "They change nothing: OUTSIDE");
    TurfHeaps x = new TurfHeaps();
    x.seen(0, 2);
    long[] before = Checks.stateOf(x);
    x.seen(21, 3);
    x.seen(1, 7);
    x.seen(-1, 3);
    x.seen(1, -1);
    checks.unchanged("seen", x, before);
    checks.equal("the next one is the second", x.seen(1, 5), 2);
    checks.equal("which are so", x.matter(0), 23);
    checks.equal("one alone", x.matter(-1), 1);
  }

  private static void promise15FullChangesNothing() {
    checks.about(15, "They change nothing: FULL");
    TurfHeaps x = eight();
    checks.equal("one is so", x.matter(-1), 1);
    checks.equal("which", x.matter(0), 23);
    checks.equal("another colour", x.seen(0, 6), FULL);
    checks.equal("one is so still", x.matter(-1), 1);
    checks.equal("which still", x.matter(0), 23);
  }

  private static void promise16HowManyThereWere() {
    checks.about(16, "how many there were");
    TurfHeaps x = eight();
    checks.equal("eight", x.forget(), 8);
    checks.equal("none", x.forget(), 0);
    x.seen(0, 0);
    x.seen(21, 0);
    checks.equal("one", x.forget(), 1);
  }

  private static void promise16SightsGo() {
    checks.about(16, "SIGHTS go");
    TurfHeaps x = eight();
    x.forget();
    checks.equal("told(6)", x.told(6), 0);
    checks.equal("all fits", x.matter(-1), 49);
    checks.equal("ask(1)", x.ask(1), 7);
    checks.equal("room for a first one", x.seen(1, 1), 1);
    checks.equal("that one alone tells", x.matter(-1), 7);
  }

  private static void promise16NothingElseGoes() {
    checks.about(16, "SIGHTS go: nothing else does");
    TurfHeaps x = new TurfHeaps();
    x.heap(0, 0, 9, 0);
    checks.does(x, "A^.A^.", 4);
    Checks.say(x, "A+.");
    x.image(0);
    long[] before = Checks.stateOf(x);
    x.seen(1, 1);
    checks.equal("forget", x.forget(), 1);
    checks.unchanged("seen and forget", x, before);
    checks.equal("the image is kept", x.restore(0), 1);
  }

  private static void promise17HowManyAtMinusOne() {
    checks.about(17, "how many (i = -1)");
    TurfHeaps x = new TurfHeaps();
    checks.equal("no sights", x.matter(-1), 49);
    x.seen(5, 0);
    checks.equal("one", x.matter(-1), 7);
    x.seen(6, 0);
    checks.equal("two", x.matter(-1), 1);
    x.seen(7, 1);
    checks.equal("three that can not be", x.matter(-1), 0);
  }

  private static void promise17TheIthRising() {
    checks.about(17, "the i-th (rising): 10 times m, and a");
    TurfHeaps x = new TurfHeaps();
    for (int i = 0; i < 49; i++) {
      checks.equal("matter(" + i + ")", x.matter(i), i / 7 * 10 + i % 7);
    }
    x.seen(1, 0);
    int[] fits = {0, 16, 25, 34, 43, 52, 61};
    for (int i = 0; i < 7; i++) {
      checks.equal("matter(" + i + ")", x.matter(i), fits[i]);
    }
  }

  private static void promise17NoneBehindTheLast() {
    checks.about(17, "the i-th; NONE");
    TurfHeaps x = new TurfHeaps();
    checks.equal("the last of 49", x.matter(48), 66);
    checks.equal("matter(49)", x.matter(49), NONE);
    checks.equal("far off", x.matter(Integer.MAX_VALUE), NONE);
    x.seen(0, 0);
    checks.equal("the last of 7", x.matter(6), 6);
    checks.equal("matter(7)", x.matter(7), NONE);
    checks.equal("matter(48)", x.matter(48), NONE);
    x.seen(1, 0);
    checks.equal("the only one", x.matter(0), 0);
    checks.equal("matter(1)", x.matter(1), NONE);
  }

  private static void promise17NoneBelowMinusOne() {
    checks.about(17, "NONE (i below -1, too)");
    TurfHeaps x = new TurfHeaps();
    int[] below = {-2, -3, -6, -49, Integer.MIN_VALUE};
    for (int i : below) {
      checks.equal("matter(" + i + ")", x.matter(i), NONE);
    }
    x.seen(0, 0);
    for (int i : below) {
      checks.equal("matter(" + i + ") by a sight", x.matter(i), NONE);
    }
  }

  private static void promise17NothingFits() {
    checks.about(17, "how many: none, if no THREAD is so");
    TurfHeaps x = new TurfHeaps();
    x.seen(3, 3);
    x.seen(10, 4);
    checks.equal("matter(-1)", x.matter(-1), 0);
    checks.equal("matter(0)", x.matter(0), NONE);
    checks.equal("matter(-2)", x.matter(-2), NONE);
  }

  private static void promise17EachNightAndColour() {
    checks.about(17, "colour m at first, and each night a more, left over by 7");
    for (int night = 0; night <= 20; night++) {
      TurfHeaps x = new TurfHeaps();
      for (int v = 0; v <= 6; v++) {
        x.forget();
        x.seen(night, v);
        int count = 0;
        for (int matter = 0; matter <= 66; matter++) {
          if (matter % 10 <= 6 && (matter / 10 + matter % 10 * night) % 7 == v) {
            checks.equal("seen(" + night + ", " + v + "), matter(" + count + ")", x.matter(count), matter);
            count++;
          }
        }
        checks.equal("seen(" + night + ", " + v + "), how many", x.matter(-1), count);
      }
    }
  }

  private static void promise17AllSights() {
    checks.about(17, "by which all SIGHTS are so: the first and the eighth too");
    for (int odd = 0; odd < 8; odd++) {
      TurfHeaps x = new TurfHeaps();
      for (int i = 0; i < 8; i++) {
        x.seen(i + 3, i == odd ? 6 : 0);
      }
      checks.equal("all but sight " + odd + " are 0", x.matter(-1), 0);
    }
    checks.equal("eight that agree", eight().matter(0), 23);
  }

  private static void promise17LeftOverBySeven() {
    checks.about(17, "left over by 7: nights 0, 7 and 14 are one");
    TurfHeaps x = new TurfHeaps();
    x.seen(0, 4);
    x.seen(7, 4);
    x.seen(14, 4);
    checks.equal("seven fit", x.matter(-1), 7);
    x.seen(20, 3);
    checks.equal("night 20 is one less", x.matter(0), 41);
    checks.equal("one fits", x.matter(-1), 1);
  }

  private static void asked(TurfHeaps x, int night, int left) {
    checks.equal("ask(0)", x.ask(0), night);
    checks.equal("ask(1)", x.ask(1), left);
  }

  private static void promise18NightZeroOfAll() {
    checks.about(18, "the night (what = 0, 0 to 20): 0, if each is as good");
    TurfHeaps x = new TurfHeaps();
    asked(x, 0, 7);
    x.seen(0, 3);
    x.seen(1, 5);
    asked(x, 0, 1);
  }

  private static void promise18TheLeastNight() {
    checks.about(18, "fewest of these are left at the most: the least");
    for (int night = 0; night <= 20; night++) {
      for (int v = 0; v <= 6; v++) {
        TurfHeaps x = new TurfHeaps();
        x.seen(night, v);
        asked(x, night % 7 == 0 ? 1 : 0, 1);
      }
    }
  }

  private static void promise18HowManyAtTheMost() {
    checks.about(18, "whatever it is, fewest of these are left: how many (1)");
    TurfHeaps x = new TurfHeaps();
    asked(x, 0, 7);
    x.seen(6, 6);
    asked(x, 0, 1);
    x.seen(13, 6);
    asked(x, 0, 1);
    x.seen(8, 2);
    asked(x, 0, 1);
    x.forget();
    asked(x, 0, 7);
  }

  private static void promise18NothingFits() {
    checks.about(18, "NONE: nothing fits");
    TurfHeaps x = new TurfHeaps();
    x.seen(2, 3);
    x.seen(2, 4);
    asked(x, NONE, NONE);
    x.seen(0, 0);
    asked(x, NONE, NONE);
  }

  private static void promise18Outside() {
    checks.about(18, "OUTSIDE");
    TurfHeaps x = new TurfHeaps();
    checks.equal("ask(2)", x.ask(2), OUTSIDE);
    checks.equal("ask(-1)", x.ask(-1), OUTSIDE);
    for (int what : FAR_OFF) {
      checks.equal("ask(" + what + ")", x.ask(what), OUTSIDE);
    }
  }

  private static void promise18OutsideThoughNothingFits() {
    checks.about(18, "OUTSIDE, though nothing fits");
    TurfHeaps x = new TurfHeaps();
    x.seen(2, 3);
    x.seen(2, 4);
    checks.equal("ask(2)", x.ask(2), OUTSIDE);
    checks.equal("ask(-1)", x.ask(-1), OUTSIDE);
  }

  private static void promise18ChangesNothing() {
    checks.about(18, "ASK: the night to ask about next; nothing is seen by it");
    TurfHeaps x = eight();
    Checks.say(x, "AaA*");
    long[] before = Checks.stateOf(x);
    x.ask(0);
    x.ask(1);
    x.ask(2);
    x.matter(-1);
    x.matter(3);
    x.matter(-2);
    checks.unchanged("ask and matter", x, before);
  }
}
