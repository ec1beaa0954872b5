/** Promises 21 to 23: year, image, restore. */
public final class YearTest {
  private static final int NONE = TurfHeaps.NONE, OUTSIDE = TurfHeaps.OUTSIDE, STATE = TurfHeaps.STATE,
      NO = TurfHeaps.NO;
  private static final Checks checks = new Checks();

  public static void main(String[] args) {
    promise21Year();
    promise21YearIsAsItsActsDone();
    promise21YearFromTheLastNights();
    promise21YearChangesNothing();
    promise21YearRefused();
    promise22Image();
    promise22And23KeepAllButThePad();
    promise23ImagesAreApart();
    promise22And23Refused();
    checks.end("YearTest");
  }

  private static TurfHeaps three() {
    TurfHeaps x = new TurfHeaps();
    x.heap(0, 0, 3, 5);
    x.heap(1, 2, 9, 2);
    x.heap(2, 12, 4, 2);
    return x;
  }

  private static void promise21Year() {
    TurfHeaps x = three();
    int[][] years = {{0, 1, 0, 0, 16}, {77, 99, 3, 0, 27}, {5, 40, 3, 0, 23}};
    for (int[] year : years) {
      for (int what = 0; what <= 2; what++) {
        checks.equal("year(" + year[0] + ", " + year[1] + ", " + what + ")",
            x.year(year[0], year[1], what), year[2 + what]);
      }
    }
    // 75 and 74 are 149: of heap 149 by 6, 5; 24 by 8, 0: it is stacked, on 3.
    TurfHeaps y = new TurfHeaps();
    checks.equal("nothing can be but stacking", y.year(1, 1, 2), 0);
    y.heap(0, 24, 9, 0);
    y.heap(1, 12, 1, 9);
    // 6 times 75 and 74 are 524: 87 by 8 is 7, a night.
    checks.equal("a night: known", y.year(6, 1, 0), 1);
    checks.equal("a night: drawn", y.year(6, 1, 1), 1);
    checks.equal("a night: heat", y.year(6, 1, 2), 9);
  }

  /** Does the acts of a year by weeks of one act each, on an object of its own. */
  private static void compare(TurfHeaps x, TurfHeaps same, int seed, int m) {
    long[] due = new long[3];
    long drawn = seed;
    for (int act = 0; act < m; act++) {
      drawn = (drawn * 75 + 74) % 65537;
      char heap = (char) ('A' + drawn % 6);
      int kind = (int) (drawn / 6 % 8);
      char cell = (char) ('a' + drawn / 48 % 25);
      same.wipe();
      if (kind < 5) {
        same.say(heap);
        same.say(kind == 0 ? cell : "+-*^".charAt(kind - 1));
      } else {
        same.say('.');
      }
      same.done();
    }
    due[0] = Integer.bitCount(same.told(2));
    due[1] = Integer.bitCount(same.told(3));
    for (int heap = 0; heap < 6; heap++) {
      due[2] += same.told(20 + heap);
    }
    for (int what = 0; what <= 2; what++) {
      checks.equal("year(" + seed + ", " + m + ", " + what + ")", x.year(seed, m, what), due[what]);
    }
  }

  private static void promise21YearIsAsItsActsDone() {
    int[] lengths = {1, 2, 5, 20, 98, 99};
    for (int seed = 0; seed <= 9999; seed += 101) {
      compare(new TurfHeaps(), new TurfHeaps(), seed, 99);
      compare(three(), three(), seed, lengths[seed % 6]);
    }
    compare(three(), three(), 9999, 99);
    compare(three(), three(), 65, 99);
  }

  private static TurfHeaps lateOne(int nights) {
    TurfHeaps x = new TurfHeaps();
    for (int i = 0; i < nights; i++) {
      x.say('.');
      if (i % 50 == 49 || i == nights - 1) {
        x.done();
      }
    }
    x.heap(3, 3, 7, 4);
    return x;
  }

  private static void promise21YearFromTheLastNights() {
    for (int seed = 7; seed < 9999; seed += 1000) {
      compare(lateOne(97), lateOne(97), seed, 60);
    }
  }

  private static void promise21YearChangesNothing() {
    TurfHeaps x = three();
    Checks.tell(x, "A^.");
    x.seen(1, 1);
    x.image(0);
    long[] before = Checks.stateOf(x);
    x.year(77, 99, 0);
    x.year(1234, 50, 2);
    checks.unchanged("year", x, before);
    x.restore(0);
    checks.unchanged("year, an image", x, before);
    checks.equal("years are the same again", x.year(77, 99, 0), 3);
  }

  private static void promise21YearRefused() {
    TurfHeaps x = three();
    long[] before = Checks.stateOf(x);
    checks.equal("seed 10000", x.year(10000, 1, 0), OUTSIDE);
    checks.equal("seed -1", x.year(-1, 1, 0), OUTSIDE);
    checks.equal("m 0", x.year(0, 0, 0), OUTSIDE);
    checks.equal("m 100", x.year(0, 100, 0), OUTSIDE);
    checks.equal("m far off", x.year(0, Integer.MAX_VALUE, 0), OUTSIDE);
    checks.equal("what 3", x.year(0, 1, 3), OUTSIDE);
    checks.equal("what -1", x.year(0, 1, -1), OUTSIDE);
    checks.unchanged("year refused", x, before);
  }

  private static void promise22Image() {
    TurfHeaps x = three();
    long[] before = Checks.stateOf(x);
    checks.equal("image 0", x.image(0), 1);
    checks.equal("image 1", x.image(1), 1);
    checks.equal("image 0 again", x.image(0), 1);
    checks.unchanged("image", x, before);
  }

  /** A run that changes all that there is. */
  private static void changeAll(TurfHeaps x) {
    x.burners(6);
    x.heap(0, 6, 9, 0);
    x.heap(4, 18, 1, 9);
    Checks.tell(x, "FlF^F+F*E^.");
    x.done();
    x.forget();
    x.seen(2, 2);
    x.seen(3, 3);
    x.seen(3, 3);
  }

  private static void promise22And23KeepAllButThePad() {
    TurfHeaps x = three();
    Checks.tell(x, "B^.");
    x.done();
    x.seen(1, 5);
    x.seen(4, 1);
    long[] before = Checks.stateOf(x);
    x.image(1);
    changeAll(x);
    checks.isTrue("all is otherwise", x.told(2) != before[2] && x.told(3) != before[3] && x.told(4) != before[4]
        && x.told(5) != before[5] && x.told(6) != before[6] && x.told(1) != before[1]);
    checks.equal("restored", x.restore(1), 1);
    checks.unchanged("kept and restored", x, before);
    checks.equal("matter is as it was", x.matter(-1), 1);
    changeAll(x);
    checks.equal("restored a second time", x.restore(1), 1);
    checks.unchanged("kept and restored twice", x, before);
    Checks.tell(x, "A+B");
    checks.equal("kept with a pad", x.image(0), 1);
    checks.equal("the pad stays when kept", x.told(0), 3);
    Checks.tell(x, ".....");
    checks.equal("restored with another pad", x.restore(0), 1);
    checks.equal("the pad stays when restored", x.told(0), 5);
    checks.equal("and its signs", x.fault(), NONE);
    x.wipe();
    checks.equal("restored with an empty pad", x.restore(0), 1);
    checks.equal("it stays empty", x.told(0), 0);
  }

  private static void promise23ImagesAreApart() {
    TurfHeaps x = new TurfHeaps();
    x.heap(0, 1, 1, 1);
    x.image(0);
    x.heap(0, 2, 2, 2);
    x.image(1);
    x.heap(0, 3, 3, 3);
    x.restore(0);
    checks.equal("image 0", x.told(10), 1);
    x.restore(1);
    checks.equal("image 1", x.told(10), 2);
    x.heap(0, 4, 4, 4);
    x.image(0);
    x.restore(1);
    checks.equal("image 1 still", x.told(30), 2);
    x.restore(0);
    checks.equal("image 0, kept anew", x.told(30), 4);
    x.heap(0, 5, 5, 5);
    x.seen(1, 1);
    x.restore(0);
    checks.equal("an image is not what is now", x.told(10), 4);
    checks.equal("nor are its sights", x.told(6), 0);
  }

  private static void promise22And23Refused() {
    TurfHeaps x = three();
    long[] before = Checks.stateOf(x);
    int[] outside = {2, -1, 10, Integer.MAX_VALUE, Integer.MIN_VALUE};
    for (int n : outside) {
      checks.equal("image " + n, x.image(n), OUTSIDE);
      checks.equal("restore " + n, x.restore(n), OUTSIDE);
    }
    checks.equal("no image 0", x.restore(0), STATE);
    checks.equal("no image 1", x.restore(1), STATE);
    x.image(1);
    checks.equal("still no image 0", x.restore(0), STATE);
    checks.unchanged("image and restore refused", x, before);
    Checks.tell(x, "C+!");
    checks.equal("an image is no matter of the pad", x.image(0), 1);
    checks.equal("the pad has its fault", x.done(), NO);
  }
}
