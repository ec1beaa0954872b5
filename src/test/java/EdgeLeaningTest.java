/** Each edge that the document names for takes and lean: promises 19 and 20. */
public final class EdgeLeaningTest {
  private static final int NONE = TurfHeaps.NONE, OUTSIDE = TurfHeaps.OUTSIDE;
  private static final long REFUSED = -1000000000000000002L;
  private static final int[] FAR_OFF = {Integer.MIN_VALUE, -65536, 256, 65536, Integer.MAX_VALUE};
  private static final Checks checks = new Checks();

  public static void main(String[] args) {
    promise19NoTurfs();
    promise19OneOrTwoTurfs();
    promise19TheGapStays();
    promise19TheLeast();
    promise19LongestRow();
    promise19OtherRows();
    promise19OutsideWhat();
    promise19ChangesNothing();
    promise20Nights0To8();
    promise20Tenths0To10();
    promise20NoNights();
    promise20NeverAsleep();
    promise20AlwaysAsleep();
    promise20LowestTerms();
    promise20Mean();
    promise20MeanWithoutTenths();
    promise20MeanNightsAreNoMatter();
    promise20WhatAndPart();
    promise20Lost();
    promise20ChangesNothing();
    checks.end("EdgeLeaningTest");
  }

  private static void takes(int n, int can, int first) {
    TurfHeaps x = new TurfHeaps();
    checks.equal("takes(" + n + ", 0)", x.takes(n, 0), can);
    checks.equal("takes(" + n + ", 1)", x.takes(n, 1), first);
    TurfHeaps y = new TurfHeaps();
    checks.equal("takes(" + n + ", 1) asked first", y.takes(n, 1), first);
    checks.equal("takes(" + n + ", 0) asked then", y.takes(n, 0), can);
  }

  private static void promise19NoTurfs() {
    checks.about(19, "who can not has lost (n = 0); NONE");
    takes(0, 0, NONE);
  }

  private static void promise19OneOrTwoTurfs() {
    checks.about(19, "take one, or two that lie side by side");
    takes(1, 1, 100);
    takes(2, 1, 200);
    takes(3, 1, 101);
  }

  private static void promise19TheGapStays() {
    checks.about(19, "(the gap stays)");
    takes(4, 1, 201);
    takes(5, 1, 102);
    takes(6, 1, 101);
    takes(7, 1, 103);
    takes(8, 1, 203);
    takes(9, 1, 104);
  }

  private static void promise19TheLeast() {
    checks.about(19, "100 times how many, and how many lie to the left of it, the least");
    takes(10, 1, 101);
    takes(12, 1, 205);
    takes(13, 1, 102);
    takes(14, 1, 202);
    takes(36, 1, 205);
  }

  private static void promise19LongestRow() {
    checks.about(19, "a row of n turfs (0 to 60)");
    takes(59, 1, 105);
    takes(60, 1, 205);
    TurfHeaps x = new TurfHeaps();
    for (int n = 1; n <= 60; n++) {
      checks.equal("takes(" + n + ", 0)", x.takes(n, 0), 1);
    }
  }

  private static void promise19OtherRows() {
    checks.about(19, "OUTSIDE: n");
    takes(61, OUTSIDE, OUTSIDE);
    takes(-1, OUTSIDE, OUTSIDE);
    for (int n : FAR_OFF) {
      takes(n, OUTSIDE, OUTSIDE);
    }
  }

  private static void promise19OutsideWhat() {
    checks.about(19, "whether (what = 0), what (1); OUTSIDE");
    TurfHeaps x = new TurfHeaps();
    for (int n = 0; n <= 60; n += 30) {
      checks.equal("takes(" + n + ", 2)", x.takes(n, 2), OUTSIDE);
      checks.equal("takes(" + n + ", -1)", x.takes(n, -1), OUTSIDE);
      for (int what : FAR_OFF) {
        checks.equal("takes(" + n + ", " + what + ")", x.takes(n, what), OUTSIDE);
      }
    }
  }

  private static void promise19ChangesNothing() {
    checks.about(19, "They change nothing, and what was asked before is no matter");
    TurfHeaps x = new TurfHeaps();
    Checks.say(x, "Aa.");
    long[] before = Checks.stateOf(x);
    int[] rows = {60, 0, 61, 3, -1, 9, 60, 36};
    int[] due = {205, NONE, OUTSIDE, 101, OUTSIDE, 104, 205, 205};
    for (int i = 0; i < rows.length; i++) {
      checks.equal("takes(" + rows[i] + ", 1)", x.takes(rows[i], 1), due[i]);
    }
    checks.unchanged("takes", x, before);
  }

  private static void fraction(int n, int t, int what, long upper, long lower) {
    TurfHeaps x = new TurfHeaps();
    String call = "lean(" + n + ", " + t + ", " + what + ", ";
    checks.equal(call + "0)", x.lean(n, t, what, 0), upper);
    checks.equal(call + "1)", x.lean(n, t, what, 1), lower);
  }

  private static void promise20Nights0To8() {
    checks.about(20, "behind n nights (0 to 8); OUTSIDE");
    long upper = 1;
    long lower = 1;
    for (int n = 0; n <= 8; n++) {
      fraction(n, 1, 0, upper, lower);
      upper *= 99;
      lower *= 100;
    }
    for (int what = 0; what <= 1; what++) {
      fraction(9, 1, what, REFUSED, REFUSED);
      fraction(-1, 1, what, REFUSED, REFUSED);
      for (int n : FAR_OFF) {
        fraction(n, 1, what, REFUSED, REFUSED);
      }
    }
  }

  private static void promise20Tenths0To10() {
    checks.about(20, "with t tenths (0 to 10); OUTSIDE");
    long[][] oneNight = {{1, 1}, {99, 100}, {24, 25}, {91, 100}, {21, 25}, {3, 4}, {16, 25}, {51, 100}, {9, 25},
        {19, 100}, {0, 1}};
    for (int t = 0; t <= 10; t++) {
      fraction(1, t, 0, oneNight[t][0], oneNight[t][1]);
    }
    for (int what = 0; what <= 1; what++) {
      fraction(1, 11, what, REFUSED, REFUSED);
      fraction(1, -1, what, REFUSED, REFUSED);
      for (int t : FAR_OFF) {
        fraction(1, t, what, REFUSED, REFUSED);
      }
    }
  }

  private static void promise20NoNights() {
    checks.about(20, "that they have not fallen behind n nights: n = 0");
    for (int t = 0; t <= 10; t++) {
      fraction(0, t, 0, 1, 1);
    }
  }

  private static void promise20NeverAsleep() {
    checks.about(20, "that they have not fallen: t = 0");
    for (int n = 0; n <= 8; n++) {
      fraction(n, 0, 0, 1, 1);
    }
  }

  private static void promise20AlwaysAsleep() {
    checks.about(20, "that they have not fallen: t = 10, and 0 in lowest terms");
    for (int n = 1; n <= 8; n++) {
      fraction(n, 10, 0, 0, 1);
    }
  }

  private static void promise20LowestTerms() {
    checks.about(20, "Fractions are told in lowest terms by part: 0 the upper, 1 the lower number");
    fraction(2, 5, 0, 9, 16);
    fraction(8, 5, 0, 6561, 65536);
    fraction(8, 2, 0, 110075314176L, 152587890625L);
    fraction(8, 8, 0, 43046721L, 152587890625L);
    fraction(8, 1, 0, 9227446944279201L, 10000000000000000L);
    fraction(8, 9, 0, 16983563041L, 10000000000000000L);
  }

  private static void promise20Mean() {
    checks.about(20, "in the mean on which night they fall first (t 1 to 10)");
    long[][] means = {{100, 1}, {25, 1}, {100, 9}, {25, 4}, {4, 1}, {25, 9}, {100, 49}, {25, 16}, {100, 81}, {1, 1}};
    for (int t = 1; t <= 10; t++) {
      fraction(3, t, 1, means[t - 1][0], means[t - 1][1]);
    }
  }

  private static void promise20MeanWithoutTenths() {
    checks.about(20, "OUTSIDE: t 0 for the mean, too");
    for (int n = 0; n <= 8; n++) {
      fraction(n, 0, 1, REFUSED, REFUSED);
    }
  }

  private static void promise20MeanNightsAreNoMatter() {
    checks.about(20, "n is no matter, but as told");
    for (int n = 0; n <= 8; n++) {
      fraction(n, 6, 1, 25, 9);
    }
    fraction(-1, 6, 1, REFUSED, REFUSED);
    fraction(9, 6, 1, REFUSED, REFUSED);
  }

  private static void promise20WhatAndPart() {
    checks.about(20, "not fallen (what = 0), the mean (1); part: 0, 1");
    TurfHeaps x = new TurfHeaps();
    int[] bad = {2, -1, Integer.MIN_VALUE, Integer.MAX_VALUE};
    for (int number : bad) {
      for (int other = 0; other <= 1; other++) {
        checks.equal("what " + number, x.lean(1, 5, number, other), REFUSED);
        checks.equal("what " + number + ", t 0", x.lean(1, 0, number, other), REFUSED);
        checks.equal("part " + number, x.lean(1, 5, other, number), REFUSED);
      }
    }
  }

  private static void promise20Lost() {
    checks.about(20, "refused with LOST and the refusal");
    TurfHeaps x = new TurfHeaps();
    checks.equal("LOST and OUTSIDE", TurfHeaps.LOST + OUTSIDE, REFUSED);
    checks.equal("lean(9, 11, 2, 2)", x.lean(9, 11, 2, 2), TurfHeaps.LOST + OUTSIDE);
    checks.equal("lean(-1, -1, -1, -1)", x.lean(-1, -1, -1, -1), TurfHeaps.LOST + OUTSIDE);
  }

  private static void promise20ChangesNothing() {
    checks.about(20, "They change nothing");
    TurfHeaps x = new TurfHeaps();
    x.heap(0, 0, 3, 3);
    Checks.say(x, "A^.");
    long[] before = Checks.stateOf(x);
    x.lean(8, 5, 0, 0);
    x.lean(8, 5, 1, 1);
    x.lean(9, 5, 1, 1);
    checks.unchanged("lean", x, before);
  }
}
