/** Each edge that the document names for acts, nights, judge, done, behind and then: promises 7 to 10. */
public final class EdgeWeeksTest {
  private static final int NONE = TurfHeaps.NONE, UNKNOWN = TurfHeaps.UNKNOWN, OUTSIDE = TurfHeaps.OUTSIDE,
      NO = TurfHeaps.NO, STATE = TurfHeaps.STATE;
  private static final int[] FAR_OFF = {Integer.MIN_VALUE, -65536, 256, 65536, Integer.MAX_VALUE};
  private static final Checks checks = new Checks();

  public static void main(String[] args) {
    judging();
    acts();
    nights();
    doing();
    askingBehind();
    askingThen();
    checks.end("EdgeWeeksTest");
  }

  // ---- promise 7

  private static void judging() {
    promise7NoneOnAnEmptyPad();
    promise7ActsFromZeroOn();
    promise7TheLastAct();
    promise7Reason1Nowhere();
    promise7Reason2AnotherOne();
    promise7Reason3Alight();
    promise7Reason4Drawn();
    promise7Reason5Turfs();
    promise7Reason6Burners();
    promise7Reason7Night99();
    promise7LeastReason();
    promise7ByTheActsBefore();
    promise7WhatZeroAndOne();
    promise7Fault();
    promise7OutsideBeforeNo();
    promise7ChangesNothing();
  }

  private static void promise7NoneOnAnEmptyPad() {
    checks.about(7, "the ACT, why; NONE");
    TurfHeaps x = new TurfHeaps();
    checks.judged(x, "", NONE, NONE);
    checks.judged(x, ".", NONE, NONE);
    checks.judged(x, ".".repeat(60), NONE, NONE);
  }

  private static void promise7ActsFromZeroOn() {
    checks.about(7, "the first ACT (from 0 on) that can not be");
    TurfHeaps x = new TurfHeaps();
    checks.judged(x, "A+", 0, 1);
    checks.judged(x, "AaB+", 1, 1);
    checks.judged(x, ".AaB+", 2, 1);
    checks.judged(x, "..C^A+", 2, 1);
    checks.judged(x, "AaBaC+", 1, 2);
  }

  private static void promise7TheLastAct() {
    checks.about(7, "the first ACT that can not be: the last of a full PAD");
    TurfHeaps x = new TurfHeaps();
    checks.judged(x, ".".repeat(58) + "F-", 58, 1);
    checks.judged(x, "Aa".repeat(29) + "B*", 29, 1);
  }

  private static void promise7Reason1Nowhere() {
    checks.about(7, "1 it is nowhere (+, -, *, ^)");
    TurfHeaps x = new TurfHeaps();
    for (char heap = 'A'; heap <= 'F'; heap++) {
      for (char deed : "+-*^".toCharArray()) {
        checks.judged(x, "" + heap + deed, 0, 1);
        checks.judged(x, "" + heap + 'm' + heap + deed, NONE, NONE);
      }
      checks.judged(x, heap + "m", NONE, NONE);
    }
  }

  private static void promise7Reason2AnotherOne() {
    checks.about(7, "2 another one is STACKED there (a CELL)");
    for (int there = 0; there <= 24; there += 12) {
      TurfHeaps x = new TurfHeaps();
      x.heap(3, there, 0, 5);
      for (char cell = 'a'; cell <= 'y'; cell++) {
        boolean isTaken = cell - 'a' == there;
        checks.judged(x, "A" + cell, isTaken ? 0 : NONE, isTaken ? 2 : NONE);
      }
      checks.judged(x, "D" + (char) ('a' + there), NONE, NONE);
      checks.judged(x, "D" + (char) ('b' + there % 24) + "A" + (char) ('a' + there), NONE, NONE);
    }
  }

  private static void promise7Reason3Alight() {
    checks.about(7, "3 it is ALIGHT (a CELL, *)");
    for (int heat = 1; heat <= 9; heat++) {
      TurfHeaps x = new TurfHeaps();
      x.heap(1, 3, heat, 5);
      checks.judged(x, "Be", 0, 3);
      checks.judged(x, "Bd", 0, 3);
      checks.judged(x, "B*", 0, 3);
      checks.judged(x, "B+", NONE, NONE);
      checks.judged(x, "B-", NONE, NONE);
      checks.judged(x, "B^", NONE, NONE);
      x.heap(1, 3, 0, 5);
      checks.judged(x, "B*", NONE, NONE);
      checks.judged(x, "B*B*", 1, 3);
      checks.judged(x, "Be", NONE, NONE);
      checks.judged(x, "B*Be", 1, 3);
    }
  }

  private static void promise7Reason4Drawn() {
    checks.about(7, "4 it is DRAWN (*)");
    TurfHeaps x = new TurfHeaps();
    x.heap(2, 4, 1, 9);
    checks.judged(x, ".C*", 1, 4);
    checks.does(x, ".", 1);
    checks.judged(x, "C*", 0, 4);
    checks.judged(x, "C+", 0, 5);
    checks.judged(x, "C-C+", NONE, NONE);
    checks.judged(x, "C^", NONE, NONE);
    checks.judged(x, "CeC*", NONE, NONE);
    checks.judged(x, "CaC*", NONE, NONE);
  }

  private static void promise7Reason5Turfs() {
    checks.about(7, "5 it has 9 TURFS already (+), none (-)");
    TurfHeaps x = new TurfHeaps();
    for (int turfs = 0; turfs <= 9; turfs++) {
      x.heap(0, 0, 0, turfs);
      checks.judged(x, "A+", turfs == 9 ? 0 : NONE, turfs == 9 ? 5 : NONE);
      checks.judged(x, "A-", turfs == 0 ? 0 : NONE, turfs == 0 ? 5 : NONE);
    }
    checks.judged(x, "A-A+A+", 2, 5);
    x.heap(0, 0, 0, 0);
    checks.judged(x, "A+A-A-", 2, 5);
  }

  private static void promise7Reason6Burners() {
    checks.about(7, "6 all BURNERS watch already (^, if it is not WATCHED)");
    for (int burners = 0; burners <= 6; burners++) {
      TurfHeaps x = new TurfHeaps();
      x.burners(burners);
      for (int heap = 0; heap < 6; heap++) {
        x.heap(heap, heap, 0, 5);
      }
      boolean isEnough = burners == 6;
      checks.judged(x, "F^E^D^C^B^A^", isEnough ? NONE : burners, isEnough ? NONE : 6);
      if (burners > 0) {
        String all = "F^E^D^C^B^A^".substring(0, 2 * burners);
        checks.judged(x, all + "F^", NONE, NONE);
        checks.judged(x, all + "F^F^", NONE, NONE);
        checks.does(x, all, burners);
        checks.judged(x, "F^", NONE, NONE);
        checks.judged(x, isEnough ? "A^" : "F^A^", NONE, NONE);
      }
    }
  }

  private static void promise7Reason7Night99() {
    checks.about(7, "7 it is night 99 (.)");
    TurfHeaps x = checks.late(98);
    checks.judged(x, ".", NONE, NONE);
    checks.judged(x, "..", 1, 7);
    checks.does(x, ".", 1);
    checks.equal("told(5)", x.told(5), 99);
    checks.judged(x, ".", 0, 7);
    checks.judged(x, "AaA*A^.", 3, 7);
    checks.judged(x, "AaA*A^", NONE, NONE);
  }

  private static void promise7LeastReason() {
    checks.about(7, "for the least of these reasons");
    TurfHeaps x = new TurfHeaps();
    x.burners(0);
    x.heap(0, 0, 5, 9);
    x.heap(1, 1, 0, 0);
    x.heap(2, -1, 0, 0);
    x.heap(3, -1, 0, 9);
    checks.judged(x, "Ab", 0, 2);
    checks.judged(x, "C-", 0, 1);
    checks.judged(x, "D+", 0, 1);
    checks.judged(x, "C^", 0, 1);
    checks.judged(x, "A^", 0, 6);
  }

  private static void promise7ByTheActsBefore() {
    checks.about(7, "of WEEKS: each ACT as it is behind those before it");
    TurfHeaps x = new TurfHeaps();
    checks.judged(x, "AaA*.A*", 3, 3);
    checks.judged(x, "AaA+A+A+A+A*.A*", 7, 4);
    checks.judged(x, "AaA+A+A+A+A*.AbA*BaB*", NONE, NONE);
    checks.judged(x, "AaBbBa", 2, 2);
    checks.judged(x, "AaAbBaBb", 3, 2);
  }

  private static void promise7WhatZeroAndOne() {
    checks.about(7, "the ACT (what = 0), why (1); OUTSIDE");
    TurfHeaps x = new TurfHeaps();
    Checks.say(x, "..A+");
    checks.equal("judge(0)", x.judge(0), 2);
    checks.equal("judge(1)", x.judge(1), 1);
    checks.equal("judge(2)", x.judge(2), OUTSIDE);
    checks.equal("judge(-1)", x.judge(-1), OUTSIDE);
    for (int what : FAR_OFF) {
      checks.equal("judge(" + what + ")", x.judge(what), OUTSIDE);
    }
  }

  private static void promise7Fault() {
    checks.about(7, "NO: there is a FAULT");
    TurfHeaps x = new TurfHeaps();
    for (String text : new String[] {"A", "!", ".A", "A+B", "A+!", ".".repeat(59) + "A"}) {
      checks.judged(x, text, NO, NO);
    }
  }

  private static void promise7OutsideBeforeNo() {
    checks.about(7, "OUTSIDE before NO");
    TurfHeaps x = new TurfHeaps();
    x.say('A');
    checks.equal("judge(2)", x.judge(2), OUTSIDE);
    checks.equal("judge(-1)", x.judge(-1), OUTSIDE);
  }

  private static void promise7ChangesNothing() {
    checks.about(7, "They change nothing");
    TurfHeaps x = busy();
    Checks.tell(x, ".A+C^.C*");
    long[] before = Checks.stateOf(x);
    checks.equal("judge(0)", x.judge(0), 4);
    checks.equal("judge(5)", x.judge(5), OUTSIDE);
    checks.unchanged("judge", x, before);
    checks.equal("the signs stay", x.wipe(), 8);
  }

  // ---- the acts, by promise 8

  private static void acts() {
    promise8CellAct();
    promise8TurfActs();
    promise8LightAct();
    promise8WatchAct();
  }

  private static void promise8CellAct() {
    checks.about(8, "a CELL's letter (STACKED there, not ALIGHT, not DRAWN, WATCHED or not as it was)");
    for (char cell = 'a'; cell <= 'y'; cell++) {
      TurfHeaps x = new TurfHeaps();
      checks.does(x, "E" + cell, 1);
      checks.equal("its cell", x.told(14), cell - 'a');
      checks.equal("its heat", x.told(24), 0);
      checks.equal("its turfs", x.told(34), 5);
      checks.equal("watched", x.told(4), 0);
    }
    TurfHeaps x = new TurfHeaps();
    x.heap(0, 0, 1, 9);
    x.heap(1, 4, 1, 8);
    checks.does(x, "A^.", 2);
    checks.equal("both drawn", x.told(3), 3);
    checks.does(x, "Aa", 1);
    checks.equal("A is not drawn, stacked where it was", x.told(3), 2);
    checks.equal("A is watched as it was", x.told(4), 1);
    checks.does(x, "By", 1);
    checks.equal("B is not drawn", x.told(3), 0);
    checks.equal("B is not watched, as it was", x.told(4), 1);
    checks.equal("turfs of A stay", x.told(30), 9);
    checks.equal("turfs of B stay", x.told(31), 8);
  }

  private static void promise8TurfActs() {
    checks.about(8, "+ (a TURF more), - (one less)");
    TurfHeaps x = new TurfHeaps();
    x.heap(5, 0, 7, 5);
    checks.does(x, "F+F+F+F+", 4);
    checks.equal("nine", x.told(35), 9);
    checks.does(x, "F-F-F-F-F-F-F-F-F-", 9);
    checks.equal("none", x.told(35), 0);
    checks.equal("the heat stays", x.told(25), 7);
  }

  private static void promise8LightAct() {
    checks.about(8, "* (it is lit: HEAT is 3)");
    TurfHeaps x = new TurfHeaps();
    x.heap(5, 24, 0, 0);
    checks.does(x, "F*", 1);
    checks.equal("its heat", x.told(25), 3);
    checks.equal("its turfs", x.told(35), 0);
    checks.equal("ALIGHT", x.chain(5), 32);
  }

  private static void promise8WatchAct() {
    checks.about(8, "^ (it is WATCHED, or no more)");
    TurfHeaps x = new TurfHeaps();
    x.heap(5, 24, 0, 0);
    x.heap(0, 0, 4, 5);
    checks.does(x, "F^", 1);
    checks.equal("watched", x.told(4), 32);
    checks.does(x, "A^F^", 2);
    checks.equal("no more", x.told(4), 1);
    checks.does(x, "A^", 1);
    checks.equal("none", x.told(4), 0);
  }

  // ---- a night, by promises 8 to 10

  private static void nights() {
    promise8NightHeatByTurfs();
    promise8NightZeroOrLess();
    promise8NightTenOrMore();
    promise8NightWatched();
    promise8NightNotAlight();
    promise8NightTurfLess();
    promise8NightNotItself();
    promise8NightZeroAtLeast();
    promise8NightForEachThatFlared();
    promise8NightAlightAlone();
    promise8NightAllAtOnce();
    promise8NightNear();
    promise8NightNumber();
  }

  private static TurfHeaps one(int heat, int turfs) {
    TurfHeaps x = new TurfHeaps();
    x.heap(0, 12, heat, turfs);
    return x;
  }

  private static void promise8NightHeatByTurfs() {
    checks.about(8, "HEAT more by 5 less its TURFS (less, if they are more than 5)");
    int[][] heatTurfsThen = {{3, 5, 3}, {3, 4, 4}, {3, 6, 2}, {3, 0, 8}, {9, 9, 5}, {9, 5, 9}, {1, 5, 1}, {4, 0, 9}};
    for (int[] h : heatTurfsThen) {
      TurfHeaps x = one(h[0], h[1]);
      checks.does(x, ".", 1);
      checks.equal("heat " + h[0] + " with " + h[1] + " turfs", x.told(20), h[2]);
      checks.equal("its turfs", x.told(30), h[1]);
      checks.equal("known", x.told(2), 0);
      checks.equal("drawn", x.told(3), 0);
    }
  }

  private static void promise8NightZeroOrLess() {
    checks.about(8, "is that 0 or less then, it is DRAWN (HEAT 0)");
    int[][] heatTurfsThen = {{1, 6, 0}, {2, 6, 1}, {1, 9, 0}, {4, 9, 0}, {5, 9, 1}, {3, 8, 0}, {1, 5, 1}};
    for (int[] h : heatTurfsThen) {
      TurfHeaps x = one(h[0], h[1]);
      checks.does(x, "A^.", 2);
      checks.equal("heat " + h[0] + " with " + h[1] + " turfs", x.told(20), h[2]);
      checks.equal("drawn", x.told(3), h[2] == 0 ? 1 : 0);
      checks.equal("ALIGHT", x.chain(0), h[2] == 0 ? STATE : 1);
      checks.equal("not known", x.told(2), 0);
      checks.equal("watched as it was", x.told(4), 1);
      checks.equal("where it was", x.told(10), 12);
      checks.equal("with its turfs", x.told(30), h[1]);
    }
  }

  private static void promise8NightTenOrMore() {
    checks.about(8, "is it 10 or more .. it FLARES: it is KNOWN, HEAT is 9");
    int[][] heatTurfsFlares = {{9, 5, 0}, {9, 4, 1}, {8, 4, 0}, {8, 3, 1}, {5, 0, 1}, {4, 0, 0}, {9, 0, 1}};
    for (int[] h : heatTurfsFlares) {
      TurfHeaps x = one(h[0], h[1]);
      Checks.say(x, ".");
      checks.equal("heat " + h[0] + " with " + h[1] + " turfs: flared", x.then(3), h[2]);
      checks.equal("known", x.then(0), h[2]);
      checks.equal("heat", x.behind(0, 0), 9);
      checks.equal("drawn", x.then(1), 0);
    }
  }

  private static void promise8NightWatched() {
    checks.about(8, "it is 5, if it is WATCHED");
    int[][] heatTurfsThen = {{9, 5, 9}, {9, 4, 5}, {8, 4, 9}, {8, 3, 5}, {5, 0, 5}, {4, 0, 9}, {9, 0, 5}, {2, 5, 2}};
    for (int[] h : heatTurfsThen) {
      TurfHeaps x = one(h[0], h[1]);
      x.heap(1, 13, 3, 5);
      Checks.say(x, "A^.");
      checks.equal("heat " + h[0] + " with " + h[1] + " turfs", x.behind(0, 0), h[2]);
      checks.equal("not known", x.then(0), 0);
      checks.equal("flared not", x.then(3), 0);
      checks.equal("first act none", x.then(5), NONE);
      checks.equal("watched still", x.then(2), 1);
      checks.equal("a near one loses no turf", x.behind(1, 1), 5);
    }
  }

  private static void promise8NightNotAlight() {
    checks.about(8, "each that is ALIGHT");
    for (int turfs = 0; turfs <= 9; turfs++) {
      TurfHeaps x = one(0, turfs);
      checks.does(x, ".", 1);
      checks.equal("no heat with " + turfs + " turfs", x.told(20), 0);
      checks.equal("drawn", x.told(3), 0);
      checks.equal("known", x.told(2), 0);
      checks.equal("turfs", x.told(30), turfs);
    }
  }

  private static void promise8NightTurfLess() {
    checks.about(8, "each HEAP that is ALIGHT has a TURF less for each that FLARED to which it is NEAR");
    TurfHeaps x = one(9, 3);
    x.heap(1, 14, 3, 5);
    x.heap(2, 10, 3, 5);
    x.heap(3, 15, 3, 5);
    checks.does(x, ".", 1);
    checks.equal("two columns to the right", x.told(31), 4);
    checks.equal("two columns to the left", x.told(32), 4);
    checks.equal("two columns and a row", x.told(33), 5);
    checks.does(x, ".", 1);
    checks.equal("a second night", x.told(31), 3);
  }

  private static void promise8NightNotItself() {
    checks.about(8, "(not itself)");
    TurfHeaps x = one(9, 3);
    checks.does(x, "..", 2);
    checks.equal("flared twice", x.told(2), 1);
    checks.equal("has its turfs", x.told(30), 3);
  }

  private static void promise8NightZeroAtLeast() {
    checks.about(8, "0 at least");
    TurfHeaps x = one(9, 0);
    x.heap(1, 13, 9, 0);
    x.heap(2, 11, 9, 0);
    x.heap(3, 17, 1, 1);
    checks.does(x, ".", 1);
    checks.equal("one turf, three that flared", x.told(33), 0);
    checks.equal("no turf, two that flared", x.told(30), 0);
    checks.does(x, "...", 3);
    for (int heap = 0; heap < 4; heap++) {
      checks.equal("turfs of " + heap, x.told(30 + heap), 0);
    }
  }

  private static void promise8NightForEachThatFlared() {
    checks.about(8, "a TURF less for each that FLARED");
    int[] around = {7, 11, 13, 17, 2};
    for (int many = 1; many <= 5; many++) {
      TurfHeaps x = new TurfHeaps();
      x.heap(5, 12, 5, 5);
      for (int heap = 0; heap < many; heap++) {
        x.heap(heap, around[heap], 9, 0);
      }
      checks.does(x, ".", 1);
      checks.equal(many + " flared", x.told(35), 5 - many);
      checks.equal("heat by the turfs before", x.told(25), 5);
    }
  }

  private static void promise8NightAlightAlone() {
    checks.about(8, "then each HEAP that is ALIGHT: not one that is not, nor one that is DRAWN then");
    TurfHeaps x = one(9, 0);
    x.heap(1, 13, 0, 5);
    x.heap(2, 11, 1, 6);
    x.heap(3, 7, 2, 6);
    checks.does(x, ".", 1);
    checks.equal("not alight", x.told(31), 5);
    checks.equal("drawn that night", x.told(32), 6);
    checks.equal("alight still", x.told(33), 5);
    checks.does(x, ".", 1);
    checks.equal("drawn before", x.told(32), 6);
  }

  private static void promise8NightAllAtOnce() {
    checks.about(8, "a night: all at once");
    for (int first = 0; first <= 1; first++) {
      TurfHeaps x = new TurfHeaps();
      x.heap(first, 0, 9, 4);
      x.heap(1 - first, 1, 8, 4);
      checks.does(x, ".", 1);
      checks.equal("the other one has heat by the turfs before", x.told(21 - first), 9);
      checks.equal("and has a turf less", x.told(31 - first), 3);
      checks.equal("one is known", x.told(2), 1 << first);
      checks.does(x, ".", 1);
      checks.equal("both flare then", x.told(2), 3);
      checks.equal("each has a turf less: the first", x.told(30 + first), 3);
      checks.equal("each has a turf less: the other", x.told(31 - first), 2);
    }
  }

  private static void promise8NightNear() {
    checks.about(8, "NEAR, if they are STACKED on CELLS APART by 2 at the most");
    for (int flaring = 0; flaring <= 24; flaring++) {
      TurfHeaps x = new TurfHeaps();
      x.heap(4, flaring, 9, 0);
      x.say('.');
      for (int cell = 0; cell <= 24; cell++) {
        if (cell != flaring) {
          x.heap(1, cell, 3, 5);
          int apart = Math.abs(cell / 5 - flaring / 5) + Math.abs(cell % 5 - flaring % 5);
          checks.equal("turfs on " + cell + ", a flare on " + flaring, x.behind(1, 1), apart <= 2 ? 4 : 5);
        }
      }
    }
  }

  private static void promise8NightNumber() {
    checks.about(8, "It is night 0 at first; . (a night)");
    TurfHeaps x = new TurfHeaps();
    checks.does(x, ".", 1);
    checks.equal("told(5)", x.told(5), 1);
    checks.does(x, ".".repeat(60), 60);
    checks.equal("told(5)", x.told(5), 61);
    checks.does(x, ".".repeat(38), 38);
    checks.equal("told(5)", x.told(5), 99);
  }

  // ---- promise 8

  private static void doing() {
    promise8EmptyPad();
    promise8HowManyActs();
    promise8ThePadIsEmptyThen();
    promise8NoFault();
    promise8NoActThatCanNotBe();
    promise8RefusedChangesNothing();
    promise8SightsStay();
  }

  /** Known, drawn, watched, sights: something of each. */
  private static TurfHeaps busy() {
    TurfHeaps x = new TurfHeaps();
    x.heap(0, 0, 9, 4);
    x.heap(1, 2, 4, 6);
    x.heap(2, 24, 1, 8);
    x.heap(3, 22, 3, 7);
    checks.does(x, "B^.", 2);
    x.seen(1, 1);
    return x;
  }

  private static void promise8EmptyPad() {
    checks.about(8, "DONE: ACTS, of an empty PAD");
    TurfHeaps x = busy();
    long[] before = Checks.stateOf(x);
    checks.equal("done()", x.done(), 0);
    checks.unchanged("done() of nothing", x, before);
  }

  private static void promise8HowManyActs() {
    checks.about(8, "(it is empty then): ACTS, not signs");
    TurfHeaps x = new TurfHeaps();
    checks.does(x, "Aa", 1);
    checks.does(x, "A+.A-", 3);
    checks.does(x, "A^".repeat(30), 30);
    checks.does(x, ".".repeat(60), 60);
  }

  private static void promise8ThePadIsEmptyThen() {
    checks.about(8, "it is empty then");
    TurfHeaps x = new TurfHeaps();
    checks.does(x, "AaA*A-.", 4);
    checks.equal("told(0)", x.told(0), 0);
    checks.equal("fault()", x.fault(), NONE);
    checks.equal("behind what is done", x.behind(0, 0), 4);
    checks.equal("a second time it is nothing", x.done(), 0);
    checks.equal("its heat", x.told(20), 4);
    checks.equal("wipe()", x.wipe(), 0);
    checks.equal("say()", x.say('.'), 1);
  }

  private static void promise8NoFault() {
    checks.about(8, "NO: there is a FAULT");
    TurfHeaps x = new TurfHeaps();
    for (String text : new String[] {"A", "!", ".A", "AaB", "Aa!", "a", ".".repeat(59) + "F"}) {
      Checks.tell(x, text);
      checks.equal("done() of '" + text + "'", x.done(), NO);
      checks.equal("the signs stay", x.told(0), text.length());
      checks.equal("nothing is done", x.told(5), 0);
    }
  }

  private static void promise8NoActThatCanNotBe() {
    checks.about(8, "NO: an ACT that can not be");
    TurfHeaps x = busy();
    for (String text : new String[] {"E+", "A*", "Ac", "Af", "C*", "A^D^E^", ".........A+A+A+A+A+A+A+A+A+", "EaB+"}) {
      Checks.tell(x, text);
      checks.equal("done() of '" + text + "'", x.done(), NO);
    }
    TurfHeaps y = checks.late(99);
    y.say('.');
    checks.equal("a hundredth night", y.done(), NO);
  }

  private static void promise8RefusedChangesNothing() {
    checks.about(8, "They change nothing");
    for (String text : new String[] {".A+C^.EhE*A", ".A+C^.EhE*E*"}) {
      TurfHeaps x = busy();
      Checks.tell(x, text);
      long[] before = Checks.stateOf(x);
      checks.equal("done() of '" + text + "'", x.done(), NO);
      checks.unchanged("done() of '" + text + "'", x, before);
      checks.equal("the signs stay", x.wipe(), text.length());
    }
  }

  private static void promise8SightsStay() {
    checks.about(8, "WEEKS on the PAD are DONE: nothing else is");
    TurfHeaps x = busy();
    x.image(0);
    checks.does(x, ".A+", 2);
    checks.equal("sights", x.told(6), 1);
    checks.equal("burners", x.told(1), 2);
    checks.equal("the image", x.restore(0), 1);
    checks.equal("the night of the image", x.told(5), 1);
  }

  // ---- promise 9

  private static void askingBehind() {
    promise9HeatTurfsCell();
    promise9CellNone();
    promise9NoSuchHeap();
    promise9OutsideWhat();
    promise9No();
    promise9FirstRefusalThatFits();
    promise9NotBeingDone();
  }

  private static void promise9HeatTurfsCell() {
    checks.about(9, "HEAT (what = 0), TURFS (1), the CELL (2)");
    TurfHeaps x = new TurfHeaps();
    for (int heap = 0; heap < 6; heap++) {
      x.heap(heap, heap == 5 ? 24 : heap * 4, heap + 1, 5 + heap % 2);
    }
    for (int heap = 0; heap < 6; heap++) {
      checks.equal("behind nothing, heat", x.behind(heap, 0), heap + 1);
      checks.equal("behind nothing, turfs", x.behind(heap, 1), 5 + heap % 2);
      checks.equal("behind nothing, cell", x.behind(heap, 2), heap == 5 ? 24 : heap * 4);
    }
    Checks.say(x, "A-.F-F-F-..");
    int[][] then = {{4, 4, 0}, {0, 6, 4}, {3, 5, 8}, {1, 6, 12}, {5, 5, 16}, {9, 3, 24}};
    for (int heap = 0; heap < 6; heap++) {
      for (int what = 0; what <= 2; what++) {
        checks.equal("behind(" + heap + ", " + what + ")", x.behind(heap, what), then[heap][what]);
      }
    }
  }

  private static void promise9CellNone() {
    checks.about(9, "the CELL (2; NONE)");
    TurfHeaps x = new TurfHeaps();
    x.heap(0, 0, 0, 5);
    Checks.say(x, "Ey");
    int[] cells = {0, NONE, NONE, NONE, 24, NONE};
    for (int heap = 0; heap < 6; heap++) {
      checks.equal("behind(" + heap + ", 2)", x.behind(heap, 2), cells[heap]);
      checks.equal("behind(" + heap + ", 0)", x.behind(heap, 0), 0);
      checks.equal("behind(" + heap + ", 1)", x.behind(heap, 1), 5);
    }
  }

  private static void promise9NoSuchHeap() {
    checks.about(9, "UNKNOWN");
    TurfHeaps x = busy();
    checks.equal("behind(6, 0)", x.behind(6, 0), UNKNOWN);
    checks.equal("behind(-1, 2)", x.behind(-1, 2), UNKNOWN);
    for (int heap : FAR_OFF) {
      checks.equal("behind(" + heap + ", 0)", x.behind(heap, 0), UNKNOWN);
    }
  }

  private static void promise9OutsideWhat() {
    checks.about(9, "OUTSIDE");
    TurfHeaps x = busy();
    checks.equal("behind(0, 3)", x.behind(0, 3), OUTSIDE);
    checks.equal("behind(0, -1)", x.behind(0, -1), OUTSIDE);
    for (int what : FAR_OFF) {
      checks.equal("behind(5, " + what + ")", x.behind(5, what), OUTSIDE);
    }
  }

  private static void promise9No() {
    checks.about(9, "NO, as of done()");
    TurfHeaps x = busy();
    for (String text : new String[] {"A", "!", ".A", "E+", ".A*", "BwB"}) {
      Checks.tell(x, text);
      for (int heap = 0; heap < 6; heap++) {
        for (int what = 0; what <= 2; what++) {
          checks.equal("behind(" + heap + ", " + what + ") of '" + text + "'", x.behind(heap, what), NO);
        }
      }
    }
  }

  private static void promise9FirstRefusalThatFits() {
    checks.about(9, "the first of these that fits: UNKNOWN, OUTSIDE, NO");
    TurfHeaps x = new TurfHeaps();
    for (String text : new String[] {"A", "A+"}) {
      Checks.tell(x, text);
      checks.equal("all three", x.behind(6, 3), UNKNOWN);
      checks.equal("unknown and no", x.behind(-1, 0), UNKNOWN);
      checks.equal("outside and no", x.behind(0, 3), OUTSIDE);
      checks.equal("outside and no", x.behind(0, -1), OUTSIDE);
      checks.equal("no alone", x.behind(0, 0), NO);
    }
  }

  private static void promise9NotBeingDone() {
    checks.about(9, "BEHIND, likewise, not being DONE");
    TurfHeaps x = busy();
    Checks.say(x, ".A+C^.");
    long[] before = Checks.stateOf(x);
    checks.equal("behind(0, 1)", x.behind(0, 1), 5);
    checks.equal("behind(6, 1)", x.behind(6, 1), UNKNOWN);
    checks.equal("behind(0, 4)", x.behind(0, 4), OUTSIDE);
    checks.unchanged("behind", x, before);
    checks.equal("turfs are as they were", x.told(30), 4);
    checks.equal("and can be done then", x.done(), 4);
    checks.equal("which is so", x.told(30), 5);
  }

  // ---- promise 10

  private static void askingThen() {
    promise10OnAnEmptyPad();
    promise10KnownDrawnWatched();
    promise10FlaredInTheText();
    promise10OnceInEachNight();
    promise10TheNight();
    promise10FirstActNone();
    promise10FirstActAndTheLeastHeap();
    promise10OutsideWhat();
    promise10No();
    promise10FirstRefusalThatFits();
    promise10NotBeingDone();
  }

  private static void thenIs(TurfHeaps x, String text, int... due) {
    Checks.tell(x, text);
    for (int what = 0; what <= 6; what++) {
      checks.equal("then(" + what + ") of '" + text + "'", x.then(what), due[what]);
    }
  }

  private static void promise10OnAnEmptyPad() {
    checks.about(10, "BEHIND an empty PAD");
    thenIs(new TurfHeaps(), "", 0, 0, 0, 0, 0, NONE, NONE);
    thenIs(busy(), "", 1, 4, 2, 0, 1, NONE, NONE);
  }

  private static void promise10KnownDrawnWatched() {
    checks.about(10, "KNOWN (what = 0), DRAWN (1), WATCHED (2) (bits each)");
    TurfHeaps x = new TurfHeaps();
    x.burners(6);
    x.heap(0, 0, 9, 0);
    x.heap(5, 24, 9, 0);
    x.heap(1, 4, 1, 9);
    x.heap(4, 20, 1, 9);
    thenIs(x, "B^C^", NO, NO, NO, NO, NO, NO, NO);
    thenIs(x, "CmB^C^.F^", 33, 18, 38, 2, 1, 3, 0);
    thenIs(x, "A^F^..", 0, 18, 33, 0, 2, NONE, NONE);
  }

  private static void promise10FlaredInTheText() {
    checks.about(10, "how many FLARED in the text");
    TurfHeaps x = busy();
    checks.equal("one is known by a text before", x.told(2), 1);
    thenIs(x, "A^", 1, 4, 3, 0, 1, NONE, NONE);
    thenIs(x, "A^.", 1, 12, 3, 0, 2, NONE, NONE);
    thenIs(x, ".", 1, 12, 2, 1, 2, 0, 0);
  }

  private static void promise10OnceInEachNight() {
    checks.about(10, "(each in each night once)");
    TurfHeaps x = new TurfHeaps();
    x.heap(0, 0, 9, 0);
    x.heap(1, 1, 9, 0);
    x.heap(2, 24, 9, 0);
    thenIs(x, ".", 7, 0, 0, 3, 1, 0, 0);
    thenIs(x, "..", 7, 0, 0, 6, 2, 0, 0);
    thenIs(x, ".A^.", 7, 0, 1, 5, 2, 0, 0);
    thenIs(x, ".".repeat(60), 7, 0, 0, 180, 60, 0, 0);
  }

  private static void promise10TheNight() {
    checks.about(10, "the night (4)");
    TurfHeaps x = checks.late(97);
    Checks.say(x, "Aa");
    checks.equal("none more", x.then(4), 97);
    Checks.say(x, "..");
    checks.equal("the last one", x.then(4), 99);
    Checks.say(x, ".");
    checks.equal("one too many", x.then(4), NO);
    checks.equal("told(5)", x.told(5), 97);
  }

  private static void promise10FirstActNone() {
    checks.about(10, "the ACT (5; NONE), the HEAP (6; NONE)");
    TurfHeaps x = one(9, 4);
    thenIs(x, "", 0, 0, 0, 0, 0, NONE, NONE);
    thenIs(x, "A+..", 0, 0, 0, 0, 2, NONE, NONE);
    thenIs(x, "A^.", 0, 0, 1, 0, 1, NONE, NONE);
    thenIs(x, "A^..A+A^.", 0, 0, 0, 0, 3, NONE, NONE);
  }

  private static void promise10FirstActAndTheLeastHeap() {
    checks.about(10, "the first ACT by which one did, which, the least");
    TurfHeaps x = new TurfHeaps();
    x.heap(5, 0, 9, 4);
    x.heap(3, 4, 9, 4);
    x.heap(1, 24, 8, 4);
    thenIs(x, ".", 40, 0, 0, 2, 1, 0, 3);
    thenIs(x, "..", 42, 0, 0, 5, 2, 0, 3);
    thenIs(x, "D^.", 32, 0, 8, 1, 1, 1, 5);
    thenIs(x, "D^F^.", 0, 0, 40, 0, 1, NONE, NONE);
    thenIs(x, "D^F^..", 2, 0, 40, 1, 2, 3, 1);
    thenIs(x, "D+F+..", 2, 0, 0, 1, 2, 3, 1);
    thenIs(x, "D+F+.D-.", 10, 0, 0, 2, 2, 4, 1);
  }

  private static void promise10OutsideWhat() {
    checks.about(10, "OUTSIDE");
    TurfHeaps x = busy();
    checks.equal("then(7)", x.then(7), OUTSIDE);
    checks.equal("then(-1)", x.then(-1), OUTSIDE);
    for (int what : FAR_OFF) {
      checks.equal("then(" + what + ")", x.then(what), OUTSIDE);
    }
  }

  private static void promise10No() {
    checks.about(10, "NO, likewise");
    TurfHeaps x = busy();
    for (String text : new String[] {"A", "!", ".A", "E+", ".A*", ".Bw"}) {
      thenIs(x, text, NO, NO, NO, NO, NO, NO, NO);
    }
  }

  private static void promise10FirstRefusalThatFits() {
    checks.about(10, "OUTSIDE before NO");
    TurfHeaps x = new TurfHeaps();
    for (String text : new String[] {"A", "A+"}) {
      Checks.tell(x, text);
      checks.equal("then(7)", x.then(7), OUTSIDE);
      checks.equal("then(-1)", x.then(-1), OUTSIDE);
    }
  }

  private static void promise10NotBeingDone() {
    checks.about(10, "BEHIND, not being DONE");
    TurfHeaps x = busy();
    Checks.say(x, ".A+C^.");
    long[] before = Checks.stateOf(x);
    checks.equal("then(4)", x.then(4), 3);
    checks.equal("then(4) again", x.then(4), 3);
    checks.equal("then(3)", x.then(3), 1);
    checks.equal("then(3) again", x.then(3), 1);
    checks.equal("then(7)", x.then(7), OUTSIDE);
    checks.unchanged("then", x, before);
    checks.equal("the night is as it was", x.told(5), 1);
  }
}
