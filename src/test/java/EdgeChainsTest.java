/** Each edge that the document names for chain, cover, due and nods: promises 11 to 14. */
public final class EdgeChainsTest {
  private static final int NONE = TurfHeaps.NONE, UNKNOWN = TurfHeaps.UNKNOWN, OUTSIDE = TurfHeaps.OUTSIDE,
      STATE = TurfHeaps.STATE;
  private static final int[] FAR_OFF = {Integer.MIN_VALUE, -65536, 256, 65536, Integer.MAX_VALUE};
  private static final Checks checks = new Checks();

  public static void main(String[] args) {
    chains();
    covers();
    duties();
    nodding();
    checks.end("EdgeChainsTest");
  }

  // ---- promise 11

  private static void chains() {
    promise11ItselfWithAnyTurfs();
    promise11TwoTurfsAtTheMost();
    promise11Near();
    promise11AndSoOn();
    promise11AlightAlone();
    promise11WatchedOrKnownIsNoMatter();
    promise11AsThingsAreNow();
    promise11NoSuchHeap();
    promise11NotAlight();
    promise11ChangesNothing();
  }

  private static void promise11ItselfWithAnyTurfs() {
    checks.about(11, "if it FLARES: it does, by any HEAT and TURFS of its own");
    for (int heat = 1; heat <= 9; heat += 4) {
      TurfHeaps x = new TurfHeaps();
      for (int turfs = 0; turfs <= 9; turfs++) {
        for (int heap = 0; heap < 6; heap += 5) {
          x.heap(5 - heap, -1, 0, 5);
          x.heap(heap, 12, heat, turfs);
          checks.equal("chain(" + heap + ") alone", x.chain(heap), 1 << heap);
        }
      }
    }
  }

  private static void promise11TwoTurfsAtTheMost() {
    checks.about(11, "has 2 TURFS at the most");
    TurfHeaps x = new TurfHeaps();
    x.heap(0, 0, 1, 9);
    for (int turfs = 0; turfs <= 9; turfs++) {
      x.heap(1, 1, 1, turfs);
      checks.equal("the near one has " + turfs, x.chain(0), turfs <= 2 ? 3 : 1);
    }
  }

  private static void promise11Near() {
    checks.about(11, "NEAR: APART by 2 at the most, rows and columns between them, added");
    for (int cell = 0; cell <= 24; cell++) {
      TurfHeaps x = new TurfHeaps();
      x.heap(2, cell, 1, 9);
      for (int other = 0; other <= 24; other++) {
        if (other != cell) {
          x.heap(4, other, 1, 2);
          int apart = Math.abs(cell / 5 - other / 5) + Math.abs(cell % 5 - other % 5);
          checks.equal(cell + " and " + other, x.chain(2), apart <= 2 ? 20 : 4);
        }
      }
    }
  }

  private static void promise11AndSoOn() {
    checks.about(11, "is NEAR to one that does, does too, and so on");
    int[] way = {0, 2, 4, 14, 24, 22};
    int[][] orders = {{0, 1, 2, 3, 4, 5}, {5, 4, 3, 2, 1, 0}, {2, 5, 0, 3, 1, 4}};
    for (int[] order : orders) {
      TurfHeaps x = new TurfHeaps();
      for (int i = 0; i < 6; i++) {
        x.heap(order[i], way[i], 1, 0);
      }
      checks.equal("from the first", x.chain(order[0]), 63);
      checks.equal("from the last", x.chain(order[5]), 63);
      x.heap(order[2], 4, 1, 3);
      checks.equal("shut in the midst", x.chain(order[0]), 1 << order[0] | 1 << order[1]);
      checks.equal("from behind it", x.chain(order[5]), 1 << order[3] | 1 << order[4] | 1 << order[5]);
      checks.equal("from the midst", x.chain(order[2]), 63);
    }
  }

  private static void promise11AlightAlone() {
    checks.about(11, "each that is ALIGHT");
    TurfHeaps x = new TurfHeaps();
    x.heap(0, 0, 1, 0);
    x.heap(2, 4, 1, 0);
    for (int heat = 1; heat <= 9; heat++) {
      x.heap(1, 2, heat, 0);
      checks.equal("heat " + heat, x.chain(0), 7);
    }
    x.heap(1, 2, 0, 0);
    checks.equal("heat 0", x.chain(0), 1);
    x.heap(1, -1, 0, 0);
    checks.equal("nowhere", x.chain(0), 1);
  }

  private static void promise11WatchedOrKnownIsNoMatter() {
    checks.about(11, "WATCHED or KNOWN is no matter");
    TurfHeaps x = new TurfHeaps();
    x.heap(0, 0, 9, 0);
    x.heap(1, 1, 9, 0);
    checks.does(x, ".A^B^", 3);
    checks.equal("known", x.told(2), 3);
    checks.equal("chain(0)", x.chain(0), 3);
    checks.equal("chain(1)", x.chain(1), 3);
  }

  private static void promise11AsThingsAreNow() {
    checks.about(11, "(As things are now.)");
    TurfHeaps x = new TurfHeaps();
    x.heap(0, 0, 1, 5);
    x.heap(1, 1, 1, 3);
    Checks.say(x, "B-");
    checks.equal("told alone", x.chain(0), 1);
    x.done();
    checks.equal("done", x.chain(0), 3);
    Checks.say(x, "A");
    checks.equal("a fault is no matter", x.chain(0), 3);
  }

  private static void promise11NoSuchHeap() {
    checks.about(11, "UNKNOWN");
    TurfHeaps x = new TurfHeaps();
    x.heap(5, 0, 1, 5);
    x.heap(0, 1, 1, 5);
    checks.equal("chain(6)", x.chain(6), UNKNOWN);
    checks.equal("chain(-1)", x.chain(-1), UNKNOWN);
    checks.equal("chain(5)", x.chain(5), 32);
    for (int heap : FAR_OFF) {
      checks.equal("chain(" + heap + ")", x.chain(heap), UNKNOWN);
    }
  }

  private static void promise11NotAlight() {
    checks.about(11, "STATE: it is not ALIGHT");
    TurfHeaps x = new TurfHeaps();
    x.heap(1, 0, 0, 0);
    x.heap(2, 24, 1, 9);
    checks.equal("alight by 1", x.chain(2), 4);
    checks.does(x, ".", 1);
    checks.equal("nowhere", x.chain(0), STATE);
    checks.equal("not lit", x.chain(1), STATE);
    checks.equal("drawn", x.chain(2), STATE);
    checks.does(x, "B*", 1);
    checks.equal("lit", x.chain(1), 2);
  }

  private static void promise11ChangesNothing() {
    checks.about(11, "CHAIN: if it FLARES; nothing does in fact");
    TurfHeaps x = new TurfHeaps();
    x.heap(0, 0, 9, 0);
    x.heap(1, 1, 9, 0);
    Checks.say(x, ".");
    long[] before = Checks.stateOf(x);
    x.chain(0);
    x.chain(3);
    x.chain(6);
    checks.unchanged("chain", x, before);
  }

  // ---- promise 12

  private static void covers() {
    promise12NoneNeeded();
    promise12NeitherOfBoth();
    promise12HowManyAndWhich();
    promise12LeastBitsOfAsFew();
    promise12FewestBeforeLeast();
    promise12AllFourOthers();
    promise12NoSuchHeap();
    promise12BothOne();
    promise12OutsideWhat();
    promise12NotAlight();
    promise12FirstRefusalThatFits();
    promise12ChangesNothing();
  }

  private static void covered(TurfHeaps x, int heap, int other, int count, int which) {
    checks.equal("cover(" + heap + ", " + other + ", 0)", x.cover(heap, other, 0), count);
    checks.equal("cover(" + heap + ", " + other + ", 1)", x.cover(heap, other, 1), which);
  }

  private static void promise12NoneNeeded() {
    checks.about(12, "how many: 0, if the second does not flare by the CHAIN of the first");
    TurfHeaps x = new TurfHeaps();
    x.heap(0, 0, 1, 0);
    x.heap(1, 24, 1, 0);
    covered(x, 0, 1, 0, 0);
    x.heap(1, 1, 1, 3);
    covered(x, 0, 1, 0, 0);
    covered(x, 1, 0, NONE, NONE);
  }

  private static void promise12NeitherOfBoth() {
    checks.about(12, "other ones (neither of both); NONE");
    TurfHeaps x = new TurfHeaps();
    x.heap(2, 0, 1, 0);
    x.heap(3, 2, 1, 0);
    covered(x, 2, 3, NONE, NONE);
    covered(x, 3, 2, NONE, NONE);
    x.heap(0, 1, 1, 0);
    x.heap(1, 5, 1, 0);
    x.heap(4, 6, 1, 0);
    x.heap(5, 7, 1, 0);
    covered(x, 2, 3, NONE, NONE);
    x.heap(3, 2, 1, 2);
    covered(x, 2, 3, NONE, NONE);
    x.heap(3, 2, 1, 3);
    covered(x, 2, 3, 0, 0);
  }

  private static void promise12HowManyAndWhich() {
    checks.about(12, "how many (what = 0), which (1)");
    for (int between = 1; between <= 4; between++) {
      TurfHeaps x = new TurfHeaps();
      x.heap(0, 0, 1, 9);
      x.heap(5, 4, 1, 2);
      x.heap(between, 2, 1, 2);
      covered(x, 0, 5, 1, 1 << between);
      covered(x, 5, 0, 0, 0);
      x.heap(between, 2, 1, 3);
      covered(x, 0, 5, 0, 0);
    }
  }

  private static void promise12LeastBitsOfAsFew() {
    checks.about(12, "which, least as bits of as few");
    TurfHeaps x = new TurfHeaps();
    x.heap(0, 0, 1, 0);
    x.heap(4, 2, 1, 0);
    x.heap(3, 4, 1, 0);
    x.heap(1, 14, 1, 0);
    x.heap(2, 24, 1, 0);
    covered(x, 0, 2, 1, 2);
    covered(x, 2, 0, 1, 2);
    covered(x, 0, 1, 1, 8);
    covered(x, 4, 2, 1, 2);
    x.heap(5, 22, 1, 0);
    covered(x, 0, 5, 1, 2);
  }

  /** E alone shuts both ways, though A with B, of lesser bits, would shut them too. */
  private static void promise12FewestBeforeLeast() {
    checks.about(12, "the fewest other ones: fewest goes before least");
    TurfHeaps x = new TurfHeaps();
    x.heap(2, 0, 1, 0);
    x.heap(4, 2, 1, 0);
    x.heap(0, 4, 1, 0);
    x.heap(1, 12, 1, 0);
    x.heap(3, 14, 1, 0);
    covered(x, 2, 3, 1, 16);
    covered(x, 3, 2, 1, 16);
    x.heap(5, 6, 1, 0);
    covered(x, 2, 3, 2, 3);
  }

  private static void promise12AllFourOthers() {
    checks.about(12, "the fewest other ones: all four");
    TurfHeaps x = new TurfHeaps();
    x.heap(1, 0, 1, 0);
    x.heap(4, 7, 1, 0);
    x.heap(0, 1, 1, 0);
    x.heap(2, 2, 1, 0);
    x.heap(3, 5, 1, 0);
    covered(x, 1, 4, 3, 13);
    x.heap(5, 6, 1, 0);
    covered(x, 1, 4, 4, 45);
    x.heap(5, 6, 0, 0);
    covered(x, 1, 4, 3, 13);
  }

  private static TurfHeaps two() {
    TurfHeaps x = new TurfHeaps();
    x.heap(0, 0, 1, 0);
    x.heap(1, 24, 1, 0);
    x.heap(2, 12, 0, 0);
    return x;
  }

  private static void promise12NoSuchHeap() {
    checks.about(12, "UNKNOWN: both");
    TurfHeaps x = two();
    checks.equal("cover(6, 0, 0)", x.cover(6, 0, 0), UNKNOWN);
    checks.equal("cover(-1, 0, 0)", x.cover(-1, 0, 0), UNKNOWN);
    checks.equal("cover(0, 6, 0)", x.cover(0, 6, 0), UNKNOWN);
    checks.equal("cover(0, -1, 0)", x.cover(0, -1, 0), UNKNOWN);
    for (int heap : FAR_OFF) {
      checks.equal("cover(" + heap + ", 0, 0)", x.cover(heap, 0, 0), UNKNOWN);
      checks.equal("cover(0, " + heap + ", 1)", x.cover(0, heap, 1), UNKNOWN);
    }
  }

  private static void promise12BothOne() {
    checks.about(12, "UNKNOWN: both one");
    TurfHeaps x = two();
    for (int heap = 0; heap < 6; heap++) {
      checks.equal("cover(" + heap + ", " + heap + ", 0)", x.cover(heap, heap, 0), UNKNOWN);
      checks.equal("cover(" + heap + ", " + heap + ", 1)", x.cover(heap, heap, 1), UNKNOWN);
    }
  }

  private static void promise12OutsideWhat() {
    checks.about(12, "OUTSIDE");
    TurfHeaps x = two();
    checks.equal("cover(0, 1, 2)", x.cover(0, 1, 2), OUTSIDE);
    checks.equal("cover(0, 1, -1)", x.cover(0, 1, -1), OUTSIDE);
    for (int what : FAR_OFF) {
      checks.equal("cover(1, 0, " + what + ")", x.cover(1, 0, what), OUTSIDE);
    }
  }

  private static void promise12NotAlight() {
    checks.about(12, "STATE: one of both is not ALIGHT");
    TurfHeaps x = two();
    for (int what = 0; what <= 1; what++) {
      checks.equal("the first", x.cover(2, 0, what), STATE);
      checks.equal("the second", x.cover(0, 2, what), STATE);
      checks.equal("both", x.cover(2, 3, what), STATE);
      checks.equal("one nowhere", x.cover(0, 5, what), STATE);
      checks.equal("neither", x.cover(0, 1, what), 0);
    }
  }

  private static void promise12FirstRefusalThatFits() {
    checks.about(12, "the first of these that fits: UNKNOWN, OUTSIDE, STATE");
    TurfHeaps x = two();
    checks.equal("all", x.cover(6, 2, 2), UNKNOWN);
    checks.equal("all, by the other", x.cover(2, -1, 2), UNKNOWN);
    checks.equal("both one, outside, not alight", x.cover(2, 2, 2), UNKNOWN);
    checks.equal("both one, not alight", x.cover(2, 2, 0), UNKNOWN);
    checks.equal("outside, not alight", x.cover(2, 0, 2), OUTSIDE);
    checks.equal("outside, the other not alight", x.cover(0, 2, -1), OUTSIDE);
  }

  private static void promise12ChangesNothing() {
    checks.about(12, "that should have 9 TURFS: none has in fact");
    TurfHeaps x = new TurfHeaps();
    x.heap(0, 0, 9, 0);
    x.heap(1, 2, 9, 0);
    x.heap(2, 4, 9, 0);
    Checks.say(x, ".");
    long[] before = Checks.stateOf(x);
    covered(x, 0, 2, 1, 2);
    covered(x, 0, 2, 1, 2);
    x.cover(0, 1, 2);
    x.cover(0, 3, 0);
    x.cover(0, 0, 0);
    checks.unchanged("cover", x, before);
    checks.equal("the chain is as it was", x.chain(0), 7);
  }

  // ---- promise 13

  private static void duties() {
    promise13OneToEightHeaps();
    promise13DigitsOneToNine();
    promise13JustNDigits();
    promise13NightsAreRowsFromTheLeft();
    promise13RowOfTwoNDigits();
    promise13RowOfFewerDigits();
    promise13NightsZeroTo99();
    promise13DrawnByThatNight();
    promise13OneBehindAnother();
    promise13LeastBitsOfAsMany();
    promise13MostBeforeLeast();
    promise13OutsideWhat();
    promise13ChangesNothing();
  }

  private static void drawn(int nights, long days, int n, int count, int which) {
    TurfHeaps x = new TurfHeaps();
    String call = "due(" + nights + ", " + days + ", " + n + ", ";
    checks.equal(call + "0)", x.due(nights, days, n, 0), count);
    checks.equal(call + "1)", x.due(nights, days, n, 1), which);
  }

  private static void promise13OneToEightHeaps() {
    checks.about(13, "n HEAPS (1 to 8); OUTSIDE: n");
    int nights = 0;
    long days = 0;
    for (int n = 1; n <= 8; n++) {
      nights = nights * 10 + 1;
      days = days * 100 + 99;
      drawn(nights, days, n, n, (1 << n) - 1);
    }
    drawn(111111111, 99, 9, OUTSIDE, OUTSIDE);
    drawn(0, 0, 0, OUTSIDE, OUTSIDE);
    drawn(1, 99, 0, OUTSIDE, OUTSIDE);
    drawn(1, 99, -1, OUTSIDE, OUTSIDE);
    for (int n : FAR_OFF) {
      drawn(1, 99, n, OUTSIDE, OUTSIDE);
    }
  }

  private static void promise13DigitsOneToNine() {
    checks.about(13, "nights told by digits (1 to 9); OUTSIDE: a digit 0");
    for (int digit = 1; digit <= 9; digit++) {
      drawn(digit, digit, 1, 1, 1);
      drawn(digit, digit - 1, 1, 0, 0);
    }
    drawn(0, 9, 1, OUTSIDE, OUTSIDE);
    drawn(10, 9, 2, OUTSIDE, OUTSIDE);
    drawn(101, 9, 3, OUTSIDE, OUTSIDE);
    drawn(11111110, 9, 8, OUTSIDE, OUTSIDE);
    drawn(10111111, 9, 8, OUTSIDE, OUTSIDE);
    drawn(-1, 9, 1, OUTSIDE, OUTSIDE);
    drawn(-11, 9, 2, OUTSIDE, OUTSIDE);
    drawn(-11111111, 9, 8, OUTSIDE, OUTSIDE);
  }

  private static void promise13JustNDigits() {
    checks.about(13, "OUTSIDE: other than n digits");
    int nights = 0;
    for (int digits = 1; digits <= 9; digits++) {
      nights = nights * 10 + 1;
      for (int n = 1; n <= 8; n++) {
        TurfHeaps x = new TurfHeaps();
        checks.equal(digits + " digits, n " + n, x.due(nights, 1, n, 0), digits == n ? 1 : OUTSIDE);
      }
    }
    drawn(Integer.MAX_VALUE, 1, 8, OUTSIDE, OUTSIDE);
    drawn(Integer.MIN_VALUE, 1, 8, OUTSIDE, OUTSIDE);
  }

  private static void promise13NightsAreRowsFromTheLeft() {
    checks.about(13, "bit i: the i-th, the first one being 0");
    drawn(19, 101, 2, 1, 1);
    drawn(91, 101, 2, 1, 2);
    drawn(99999991, 101010101010101L, 8, 1, 128);
    drawn(19999999, 101010101010101L, 8, 1, 1);
    drawn(11, 1, 2, 1, 2);
    drawn(11, 100, 2, 1, 1);
    drawn(11111111, 1, 8, 1, 128);
    drawn(11111111, 100000000000000L, 8, 1, 1);
    drawn(111, 100, 3, 1, 2);
  }

  private static void promise13RowOfTwoNDigits() {
    checks.about(13, "OUTSIDE: days: a row of more than 2 n digits");
    long most = 0;
    int nights = 0;
    for (int n = 1; n <= 8; n++) {
      most = most * 100 + 99;
      nights = nights * 10 + 1;
      drawn(nights, most, n, n, (1 << n) - 1);
      drawn(nights, most + 1, n, OUTSIDE, OUTSIDE);
      drawn(nights, Long.MAX_VALUE, n, OUTSIDE, OUTSIDE);
      drawn(nights, -1, n, OUTSIDE, OUTSIDE);
      drawn(nights, Long.MIN_VALUE, n, OUTSIDE, OUTSIDE);
    }
    drawn(1, 1L << 32, 1, OUTSIDE, OUTSIDE);
  }

  private static void promise13RowOfFewerDigits() {
    checks.about(13, "another row (two digits each): fewer digits are nights 0 in front");
    drawn(11, 5, 2, 1, 2);
    drawn(11, 105, 2, 2, 3);
    drawn(1111, 40302, 4, 3, 14);
    drawn(11111111, 0, 8, 0, 0);
  }

  private static void promise13NightsZeroTo99() {
    checks.about(13, "0 to 99");
    drawn(1, 0, 1, 0, 0);
    drawn(1, 1, 1, 1, 1);
    drawn(9, 99, 1, 1, 1);
    drawn(99999999, 9999999999999999L, 8, 8, 255);
    drawn(99999999, 7272727272727272L, 8, 8, 255);
    drawn(99999999, 7171717171717171L, 8, 7, 127);
  }

  private static void promise13DrawnByThatNight() {
    checks.about(13, "must be DRAWN by nights told");
    drawn(32, 305, 2, 2, 3);
    drawn(32, 304, 2, 1, 1);
    drawn(32, 205, 2, 1, 2);
    drawn(32, 201, 2, 0, 0);
  }

  private static void promise13OneBehindAnother() {
    checks.about(13, "take nights, one behind another: the most that can be");
    drawn(23, 503, 2, 2, 3);
    drawn(23, 403, 2, 1, 1);
    drawn(321, 60301L, 3, 3, 7);
    drawn(321, 60300L, 3, 2, 3);
    drawn(321, 50301L, 3, 2, 3);
    drawn(321, 30301L, 3, 2, 6);
  }

  private static void promise13LeastBitsOfAsMany() {
    checks.about(13, "which, least as bits of as many");
    drawn(222, 30303, 3, 1, 1);
    drawn(222, 40404, 3, 2, 3);
    drawn(332, 50505, 3, 2, 5);
    drawn(322, 30404, 3, 2, 6);
    drawn(2222, 4040404, 4, 2, 3);
    drawn(9222, 4040404, 4, 2, 6);
  }

  private static void promise13MostBeforeLeast() {
    checks.about(13, "the most that can be goes before the least bits");
    drawn(911, 90102, 3, 2, 6);
    drawn(5111, 5010203L, 4, 3, 14);
    drawn(91111111, 901020304050607L, 8, 7, 254);
  }

  private static void promise13OutsideWhat() {
    checks.about(13, "OUTSIDE: what");
    TurfHeaps x = new TurfHeaps();
    checks.equal("due(1, 1, 1, 2)", x.due(1, 1, 1, 2), OUTSIDE);
    checks.equal("due(1, 1, 1, -1)", x.due(1, 1, 1, -1), OUTSIDE);
    for (int what : FAR_OFF) {
      checks.equal("due(1, 1, 1, " + what + ")", x.due(1, 1, 1, what), OUTSIDE);
    }
  }

  private static void promise13ChangesNothing() {
    checks.about(13, "They change nothing, and what was asked before is no matter");
    TurfHeaps x = new TurfHeaps();
    long[] before = Checks.stateOf(x);
    checks.equal("of eight", x.due(12345678, 3628211510060301L, 8, 1), 31);
    checks.equal("refused by a digit 0", x.due(9990, 1, 4, 1), OUTSIDE);
    checks.equal("refused by its days", x.due(999, 1990101L, 3, 1), OUTSIDE);
    checks.equal("of two, then", x.due(21, 302, 2, 1), 3);
    checks.equal("of eight again", x.due(12345678, 3628211510060301L, 8, 1), 31);
    checks.unchanged("due", x, before);
  }

  // ---- promise 14

  private static void nodding() {
    promise14OneToNineEach();
    promise14NightsZeroTo9999();
    promise14FromTheFirstOn();
    promise14AwakeThenAsleep();
    promise14FirstBeItBeyond();
    promise14OverAllTheirTurns();
    promise14OutsideWhat();
    promise14ChangesNothing();
  }

  private static void promise14OneToNineEach() {
    checks.about(14, "a, b, c, d (1 to 9 each)");
    TurfHeaps x = new TurfHeaps();
    checks.equal("all 1", x.nods(1, 1, 1, 1, 2, 0), 1);
    checks.equal("all 9", x.nods(9, 9, 9, 9, 18, 0), 9);
    checks.equal("a 9", x.nods(9, 1, 1, 1, 10, 0), 1);
    checks.equal("b 9", x.nods(1, 9, 1, 1, 10, 0), 5);
    checks.equal("c 9", x.nods(1, 1, 9, 1, 10, 0), 1);
    checks.equal("d 9", x.nods(1, 1, 1, 9, 10, 0), 5);
    int[] bad = {0, 10, -1, Integer.MIN_VALUE, Integer.MAX_VALUE};
    for (int number : bad) {
      for (int what = 0; what <= 1; what++) {
        checks.equal("a " + number, x.nods(number, 1, 1, 1, 1, what), OUTSIDE);
        checks.equal("b " + number, x.nods(1, number, 1, 1, 1, what), OUTSIDE);
        checks.equal("c " + number, x.nods(1, 1, number, 1, 1, what), OUTSIDE);
        checks.equal("d " + number, x.nods(1, 1, 1, number, 1, what), OUTSIDE);
      }
    }
    checks.equal("a and b that make none", x.nods(-1, 1, 1, 1, 1, 0), OUTSIDE);
    checks.equal("c and d that make none", x.nods(1, 1, 1, -1, 1, 0), OUTSIDE);
  }

  private static void promise14NightsZeroTo9999() {
    checks.about(14, "n nights (0 to 9999)");
    TurfHeaps x = new TurfHeaps();
    checks.equal("0", x.nods(1, 9, 1, 9, 0, 0), 0);
    checks.equal("9999", x.nods(1, 1, 1, 1, 9999, 0), 4999);
    checks.equal("9998", x.nods(1, 1, 1, 1, 9998, 0), 4999);
    checks.equal("9997", x.nods(1, 1, 1, 1, 9997, 0), 4998);
    for (int what = 0; what <= 1; what++) {
      checks.equal("-1", x.nods(1, 1, 1, 1, -1, what), OUTSIDE);
      checks.equal("10000", x.nods(1, 1, 1, 1, 10000, what), OUTSIDE);
      checks.equal("far less", x.nods(1, 1, 1, 1, Integer.MIN_VALUE, what), OUTSIDE);
      checks.equal("far more", x.nods(1, 1, 1, 1, Integer.MAX_VALUE, what), OUTSIDE);
    }
  }

  private static void promise14FromTheFirstOn() {
    checks.about(14, "on how many of n nights, from the first on, both are asleep");
    TurfHeaps x = new TurfHeaps();
    // awake 1 5 9 13 .. and 1 4 7 10 13 ..: both asleep 2 3 6 8 11 12 14 ..
    int[] both = {0, 0, 1, 2, 2, 2, 3, 3, 4, 4, 4, 5, 6, 6, 7};
    for (int n = 0; n < both.length; n++) {
      checks.equal("nods(1, 3, 1, 2) of " + n, x.nods(1, 3, 1, 2, n, 0), both[n]);
    }
  }

  private static int bothAsleep(int a, int b, int c, int d, int n) {
    int both = 0;
    for (int night = 0; night < n; night++) {
      both += night % (a + b) >= a && night % (c + d) >= c ? 1 : 0;
    }
    return both;
  }

  private static void promise14AwakeThenAsleep() {
    checks.about(14, "awake for a nights, then asleep for b, and so on; another one for c, and d");
    TurfHeaps x = new TurfHeaps();
    checks.equal("night 1 is awake", x.nods(1, 9, 1, 9, 1, 0), 0);
    checks.equal("night 2 is asleep", x.nods(1, 9, 1, 9, 2, 0), 1);
    checks.equal("night 10 is asleep", x.nods(1, 9, 1, 9, 10, 0), 9);
    checks.equal("night 11 is awake", x.nods(1, 9, 1, 9, 11, 0), 9);
    checks.equal("night 12 is asleep", x.nods(1, 9, 1, 9, 12, 0), 10);
    checks.equal("the longer awake tells the first", x.nods(7, 5, 2, 9, 9999, 1), 8);
    checks.equal("and turned", x.nods(2, 9, 7, 5, 9999, 1), 8);
    checks.equal("asleep by turns at first", x.nods(1, 1, 2, 1, 9999, 1), 6);
  }

  private static void promise14FirstBeItBeyond() {
    checks.about(14, "the first such night of all (1 on), be it beyond n");
    TurfHeaps x = new TurfHeaps();
    int[] lengths = {0, 1, 89, 90, 9999};
    for (int n : lengths) {
      checks.equal("nods(9, 1, 8, 1) of " + n, x.nods(9, 1, 8, 1, n, 1), 90);
      checks.equal("nods(1, 1, 1, 1) of " + n, x.nods(1, 1, 1, 1, n, 1), 2);
    }
    checks.equal("nods(8, 1, 6, 1)", x.nods(8, 1, 6, 1, 0, 1), 63);
    checks.equal("how many of 62", x.nods(8, 1, 6, 1, 62, 0), 0);
    checks.equal("how many of 63", x.nods(8, 1, 6, 1, 63, 0), 1);
  }

  /** All lengths of both turns, each for one number of nights at least that ends within a common turn. */
  private static void promise14OverAllTheirTurns() {
    checks.about(14, "NODS, for each length of both turns");
    for (int code = 0; code < 6561; code++) {
      int a = 1 + code % 9;
      int b = 1 + code / 9 % 9;
      int c = 1 + code / 81 % 9;
      int d = 1 + code / 729;
      int n = code * 7 % 10000;
      int first = 1;
      while (bothAsleep(a, b, c, d, first) == 0) {
        first++;
      }
      TurfHeaps x = new TurfHeaps();
      String turns = a + ", " + b + ", " + c + ", " + d + ", ";
      checks.equal("nods(" + turns + n + ", 0)", x.nods(a, b, c, d, n, 0), bothAsleep(a, b, c, d, n));
      checks.equal("nods(" + turns + n + ", 1)", x.nods(a, b, c, d, n, 1), first);
    }
  }

  private static void promise14OutsideWhat() {
    checks.about(14, "how many (what = 0), the first (1); OUTSIDE");
    TurfHeaps x = new TurfHeaps();
    checks.equal("what 2", x.nods(1, 1, 1, 1, 1, 2), OUTSIDE);
    checks.equal("what -1", x.nods(1, 1, 1, 1, 1, -1), OUTSIDE);
    for (int what : FAR_OFF) {
      checks.equal("what " + what, x.nods(1, 1, 1, 1, 1, what), OUTSIDE);
    }
  }

  private static void promise14ChangesNothing() {
    checks.about(14, "They change nothing");
    TurfHeaps x = two();
    Checks.say(x, ".A+");
    long[] before = Checks.stateOf(x);
    x.nods(2, 3, 4, 5, 9999, 0);
    x.nods(2, 3, 4, 5, 9999, 1);
    x.nods(0, 3, 4, 5, 9999, 1);
    checks.unchanged("nods", x, before);
  }
}
