/** Each edge that the document names for a new object, heap, burners and told: promises 1 to 3, and 24. */
public final class EdgeHeapsTest {
  private static final int NONE = TurfHeaps.NONE, UNKNOWN = TurfHeaps.UNKNOWN, OUTSIDE = TurfHeaps.OUTSIDE,
      STATE = TurfHeaps.STATE;
  private static final int[] FAR_OFF = {Integer.MIN_VALUE, -256, 256, 65536, Integer.MAX_VALUE};
  private static final Checks checks = new Checks();

  public static void main(String[] args) {
    promise1NowhereAtFirst();
    promise1NotAlightAtFirst();
    promise1FiveTurfsAtFirst();
    promise1NoneOfItAtFirst();
    promise1TwoBurnersAtFirst();
    promise1NightZeroAtFirst();
    promise1PadSightsImagesAtFirst();
    promise1EachObjectIsItsOwn();
    promise2Cells0To24();
    promise2CellMinusOneIsNowhere();
    promise2NoSuchCell();
    promise2NoSuchHeap();
    promise2Heat0To9();
    promise2HeatZeroAloneIfNowhere();
    promise2Turfs0To9();
    promise2NotDrawn();
    promise2NotWatched();
    promise2KnownStays();
    promise2OnWhichItWas();
    promise2AnotherOneIsThere();
    promise2OneAtTheMostOnEach();
    promise2FirstRefusalThatFits();
    promise2RefusedChangesNothing();
    promise3Burners0To6();
    promise3OtherBurners();
    promise3MoreWatch();
    promise3FirstRefusalThatFits();
    promise3RefusedChangesNothing();
    promise24FirstSeven();
    promise24OfAHeap();
    promise24Outside();
    promise24ChangesNothing();
    checks.end("EdgeHeapsTest");
  }

  private static void promise1NowhereAtFirst() {
    checks.about(1, "nowhere (all, at first)");
    TurfHeaps x = new TurfHeaps();
    for (int heap = 0; heap < 6; heap++) {
      checks.equal("told(" + (10 + heap) + ")", x.told(10 + heap), NONE);
      checks.equal("behind(" + heap + ", 2)", x.behind(heap, 2), NONE);
    }
  }

  private static void promise1NotAlightAtFirst() {
    checks.about(1, "ALIGHT by HEAT 1 to 9, or not (HEAT 0)");
    TurfHeaps x = new TurfHeaps();
    for (int heap = 0; heap < 6; heap++) {
      checks.equal("told(" + (20 + heap) + ")", x.told(20 + heap), 0);
      checks.equal("chain(" + heap + ")", x.chain(heap), STATE);
    }
  }

  private static void promise1FiveTurfsAtFirst() {
    checks.about(1, "have 0 to 9 TURFS (5 at first)");
    TurfHeaps x = new TurfHeaps();
    for (int heap = 0; heap < 6; heap++) {
      checks.equal("told(" + (30 + heap) + ")", x.told(30 + heap), 5);
    }
  }

  private static void promise1NoneOfItAtFirst() {
    checks.about(1, "WATCHED, or not; KNOWN, or not; DRAWN, or not (none of it at first)");
    TurfHeaps x = new TurfHeaps();
    checks.equal("known", x.told(2), 0);
    checks.equal("drawn", x.told(3), 0);
    checks.equal("watched", x.told(4), 0);
  }

  private static void promise1TwoBurnersAtFirst() {
    checks.about(1, "0 to 6 BURNERS (2 at first)");
    TurfHeaps x = new TurfHeaps();
    checks.equal("told(1)", x.told(1), 2);
    checks.judged(x, "AaBbCcA^B^C^", 5, 6);
    checks.equal("burners(2)", x.burners(2), 2);
  }

  private static void promise1NightZeroAtFirst() {
    checks.about(1, "It is night 0 at first");
    TurfHeaps x = new TurfHeaps();
    checks.equal("told(5)", x.told(5), 0);
    checks.equal("then(4)", x.then(4), 0);
  }

  private static void promise1PadSightsImagesAtFirst() {
    checks.about(1, "TurfHeaps(): A clearing");
    TurfHeaps x = new TurfHeaps();
    checks.equal("signs", x.told(0), 0);
    checks.equal("wipe()", x.wipe(), 0);
    checks.equal("done()", x.done(), 0);
    checks.equal("sights", x.told(6), 0);
    checks.equal("forget()", x.forget(), 0);
    checks.equal("restore(0)", x.restore(0), STATE);
    checks.equal("restore(1)", x.restore(1), STATE);
  }

  private static void promise1EachObjectIsItsOwn() {
    checks.about(1, "a new object, whatever was done to another one");
    TurfHeaps old = new TurfHeaps();
    old.burners(4);
    old.heap(0, 0, 9, 0);
    old.heap(1, 24, 1, 9);
    checks.does(old, "A^A^B^.", 4);
    old.seen(1, 1);
    old.image(0);
    old.image(1);
    old.takes(60, 1);
    Checks.say(old, "A");
    TurfHeaps x = new TurfHeaps();
    long[] fresh = Checks.stateOf(x);
    for (int what = 0; what <= 6; what++) {
      checks.equal("told(" + what + ")", fresh[what], what == 1 ? 2 : 0);
    }
    checks.equal("cell of A", x.told(10), NONE);
    checks.equal("restore(0)", x.restore(0), STATE);
    checks.equal("the old one has its own", old.told(3), 2);
  }

  private static void promise2Cells0To24() {
    checks.about(2, "CELLS 0 to 24 (a to y)");
    for (int heap = 0; heap < 6; heap++) {
      TurfHeaps x = new TurfHeaps();
      int was = NONE;
      for (int cell = 0; cell <= 24; cell++) {
        checks.equal("heap(" + heap + ", " + cell + ", 4, 5)", x.heap(heap, cell, 4, 5), was);
        checks.equal("its cell", x.told(10 + heap), cell);
        was = cell;
      }
    }
  }

  private static void promise2CellMinusOneIsNowhere() {
    checks.about(2, "a CELL (-1: nowhere)");
    TurfHeaps x = new TurfHeaps();
    x.heap(2, 24, 0, 5);
    checks.equal("heap(2, -1, 0, 5)", x.heap(2, -1, 0, 5), 24);
    checks.equal("its cell", x.told(12), NONE);
    checks.judged(x, "C+", 0, 1);
    for (int heap = 0; heap < 6; heap++) {
      checks.equal("all can be nowhere: " + heap, x.heap(heap, -1, 0, heap), NONE);
    }
  }

  private static void promise2NoSuchCell() {
    checks.about(2, "UNKNOWN: both (no such CELL)");
    TurfHeaps x = new TurfHeaps();
    checks.equal("heap(0, 25, 0, 0)", x.heap(0, 25, 0, 0), UNKNOWN);
    checks.equal("heap(0, -2, 0, 0)", x.heap(0, -2, 0, 0), UNKNOWN);
    checks.equal("heap(0, NONE, 0, 0)", x.heap(0, NONE, 0, 0), UNKNOWN);
    for (int cell : FAR_OFF) {
      checks.equal("heap(0, " + cell + ", 0, 0)", x.heap(0, cell, 0, 0), UNKNOWN);
    }
  }

  private static void promise2NoSuchHeap() {
    checks.about(2, "UNKNOWN: both (no such HEAP)");
    TurfHeaps x = new TurfHeaps();
    checks.equal("heap(6, 0, 0, 0)", x.heap(6, 0, 0, 0), UNKNOWN);
    checks.equal("heap(-1, 0, 0, 0)", x.heap(-1, 0, 0, 0), UNKNOWN);
    for (int heap : FAR_OFF) {
      checks.equal("heap(" + heap + ", 0, 0, 0)", x.heap(heap, 0, 0, 0), UNKNOWN);
    }
    checks.equal("heap(5, 0, 0, 0)", x.heap(5, 0, 0, 0), NONE);
    checks.equal("heap(0, 1, 0, 0)", x.heap(0, 1, 0, 0), NONE);
  }

  private static void promise2Heat0To9() {
    checks.about(2, "with HEAT 0 to 9");
    TurfHeaps x = new TurfHeaps();
    x.heap(3, 12, 0, 5);
    for (int heat = 0; heat <= 9; heat++) {
      checks.equal("heap(3, 12, " + heat + ", 5)", x.heap(3, 12, heat, 5), 12);
      checks.equal("its heat", x.told(23), heat);
    }
    checks.equal("heat 10", x.heap(3, 12, 10, 5), OUTSIDE);
    checks.equal("heat -1", x.heap(3, 12, -1, 5), OUTSIDE);
    for (int heat : FAR_OFF) {
      checks.equal("heat " + heat, x.heap(3, 12, heat, 5), OUTSIDE);
    }
  }

  private static void promise2HeatZeroAloneIfNowhere() {
    checks.about(2, "0 alone, if nowhere: else OUTSIDE");
    TurfHeaps x = new TurfHeaps();
    for (int heat = 1; heat <= 9; heat++) {
      checks.equal("heap(0, -1, " + heat + ", 5)", x.heap(0, -1, heat, 5), OUTSIDE);
    }
    checks.equal("heap(0, -1, -1, 5)", x.heap(0, -1, -1, 5), OUTSIDE);
    checks.equal("heap(0, -1, 10, 5)", x.heap(0, -1, 10, 5), OUTSIDE);
    checks.equal("heap(0, -1, 0, 5)", x.heap(0, -1, 0, 5), NONE);
    x.heap(0, 3, 9, 5);
    checks.equal("one that is alight, put nowhere with heat", x.heap(0, -1, 9, 5), OUTSIDE);
    checks.equal("it is where it was", x.told(10), 3);
    checks.equal("put nowhere with none", x.heap(0, -1, 0, 5), 3);
    checks.equal("its heat", x.told(20), 0);
  }

  private static void promise2Turfs0To9() {
    checks.about(2, "TURFS (0 to 9)");
    TurfHeaps x = new TurfHeaps();
    int[] cells = {-1, 7};
    for (int cell : cells) {
      x.heap(4, cell, 0, 5);
      for (int turfs = 0; turfs <= 9; turfs++) {
        checks.equal("heap(4, " + cell + ", 0, " + turfs + ")", x.heap(4, cell, 0, turfs), cell < 0 ? NONE : cell);
        checks.equal("its turfs", x.told(34), turfs);
      }
      checks.equal("turfs 10", x.heap(4, cell, 0, 10), OUTSIDE);
      checks.equal("turfs -1", x.heap(4, cell, 0, -1), OUTSIDE);
      for (int turfs : FAR_OFF) {
        checks.equal("turfs " + turfs, x.heap(4, cell, 0, turfs), OUTSIDE);
      }
    }
  }

  /** A and F are drawn, and both watched. */
  private static TurfHeaps drawnAndWatched() {
    TurfHeaps x = new TurfHeaps();
    x.heap(0, 0, 1, 9);
    x.heap(5, 24, 1, 9);
    checks.does(x, ".A^F^", 3);
    checks.equal("both drawn", x.told(3), 33);
    checks.equal("both watched", x.told(4), 33);
    return x;
  }

  private static void promise2NotDrawn() {
    checks.about(2, "not DRAWN");
    TurfHeaps x = drawnAndWatched();
    x.heap(0, 0, 0, 5);
    checks.equal("put where it was", x.told(3), 32);
    checks.judged(x, "A*", NONE, NONE);
    x.heap(5, -1, 0, 5);
    checks.equal("put nowhere", x.told(3), 0);
  }

  private static void promise2NotWatched() {
    checks.about(2, "not WATCHED");
    TurfHeaps x = drawnAndWatched();
    x.heap(1, 1, 0, 5);
    checks.judged(x, "B^", 0, 6);
    x.heap(0, 0, 0, 5);
    checks.equal("put where it was", x.told(4), 32);
    checks.judged(x, "B^", NONE, NONE);
    x.heap(5, -1, 0, 5);
    checks.equal("put nowhere", x.told(4), 0);
    checks.judged(x, "A^B^", NONE, NONE);
  }

  private static void promise2KnownStays() {
    checks.about(2, "KNOWN stays");
    TurfHeaps x = new TurfHeaps();
    x.heap(0, 0, 9, 0);
    x.heap(5, 24, 9, 0);
    checks.does(x, ".", 1);
    x.heap(0, 1, 0, 5);
    checks.equal("put elsewhere", x.told(2), 33);
    x.heap(5, -1, 0, 5);
    checks.equal("put nowhere", x.told(2), 33);
    x.heap(3, 3, 9, 0);
    checks.equal("another one that is put is not known", x.told(2), 33);
  }

  private static void promise2OnWhichItWas() {
    checks.about(2, "on which it was (NONE)");
    TurfHeaps x = new TurfHeaps();
    checks.equal("from nowhere", x.heap(1, 0, 0, 5), NONE);
    checks.equal("from cell 0", x.heap(1, 24, 0, 5), 0);
    checks.equal("from cell 24 to 24", x.heap(1, 24, 0, 5), 24);
    checks.equal("from cell 24 to nowhere", x.heap(1, -1, 0, 5), 24);
    checks.equal("from nowhere to nowhere", x.heap(1, -1, 0, 5), NONE);
    checks.does(x, "Bc", 1);
    checks.equal("where an act stacked it", x.heap(1, 5, 0, 5), 2);
  }

  private static void promise2AnotherOneIsThere() {
    checks.about(2, "STATE: another one is there");
    for (int there = 0; there < 6; there++) {
      TurfHeaps x = new TurfHeaps();
      x.heap(there, there * 4, there, 5);
      for (int heap = 0; heap < 6; heap++) {
        checks.equal(heap + " on the cell of " + there, x.heap(heap, there * 4, 0, 5),
            heap == there ? there * 4 : STATE);
      }
    }
  }

  private static void promise2OneAtTheMostOnEach() {
    checks.about(2, "one at the most on each");
    TurfHeaps x = new TurfHeaps();
    x.heap(0, 6, 0, 5);
    checks.equal("taken", x.heap(1, 6, 0, 5), STATE);
    x.heap(0, 7, 0, 5);
    checks.equal("left by the one that was there", x.heap(1, 6, 0, 5), NONE);
    x.heap(1, -1, 0, 5);
    checks.equal("left for nowhere", x.heap(2, 6, 0, 5), NONE);
    checks.does(x, "Cy", 1);
    checks.equal("taken by an act", x.heap(1, 24, 0, 5), STATE);
    checks.equal("left by an act", x.heap(1, 6, 0, 5), NONE);
  }

  private static void promise2FirstRefusalThatFits() {
    checks.about(2, "the first of these that fits: UNKNOWN, OUTSIDE, STATE");
    TurfHeaps x = new TurfHeaps();
    x.heap(0, 6, 0, 5);
    checks.equal("heap, heat, turfs and cell", x.heap(6, 6, 10, 10), UNKNOWN);
    checks.equal("cell and heat", x.heap(1, 25, 10, 5), UNKNOWN);
    checks.equal("cell and turfs", x.heap(1, -2, 0, -1), UNKNOWN);
    checks.equal("heat, and another one there", x.heap(1, 6, 10, 5), OUTSIDE);
    checks.equal("turfs, and another one there", x.heap(1, 6, 0, 10), OUTSIDE);
    checks.equal("another one there alone", x.heap(1, 6, 9, 9), STATE);
  }

  private static void promise2RefusedChangesNothing() {
    checks.about(2, "They change nothing");
    TurfHeaps x = drawnAndWatched();
    x.heap(3, 12, 4, 3);
    long[] before = Checks.stateOf(x);
    int[][] refused = {{6, 0, 0, 0}, {-1, 0, 0, 0}, {0, 25, 0, 0}, {0, -2, 0, 0}, {0, 3, 10, 0}, {0, 3, -1, 0},
        {0, 3, 0, 10}, {0, 3, 0, -1}, {0, -1, 1, 0}, {0, 12, 1, 1}, {5, 12, 0, 0}, {0, 24, 0, 0}};
    for (int[] r : refused) {
      checks.isTrue("refused", x.heap(r[0], r[1], r[2], r[3]) < 0);
    }
    checks.unchanged("what is refused", x, before);
  }

  private static void promise3Burners0To6() {
    checks.about(3, "There are 0 to 6 BURNERS");
    TurfHeaps x = new TurfHeaps();
    int was = 2;
    for (int v = 0; v <= 6; v++) {
      checks.equal("burners(" + v + ")", x.burners(v), was);
      checks.equal("told(1)", x.told(1), v);
      was = v;
    }
    checks.equal("burners(0)", x.burners(0), 6);
  }

  private static void promise3OtherBurners() {
    checks.about(3, "OUTSIDE");
    TurfHeaps x = new TurfHeaps();
    checks.equal("burners(7)", x.burners(7), OUTSIDE);
    checks.equal("burners(-1)", x.burners(-1), OUTSIDE);
    for (int v : FAR_OFF) {
      checks.equal("burners(" + v + ")", x.burners(v), OUTSIDE);
    }
  }

  private static void promise3MoreWatch() {
    checks.about(3, "STATE: more watch");
    for (int watching = 0; watching <= 6; watching++) {
      TurfHeaps x = new TurfHeaps();
      x.burners(6);
      checks.does(x, "AaA^BbB^CcC^DdD^EeE^FfF^".substring(0, 4 * watching), 2 * watching);
      for (int v = 0; v <= 6; v++) {
        checks.equal(watching + " watch, burners(" + v + ")", x.burners(v), v < watching ? STATE : 6);
        x.burners(6);
      }
    }
  }

  private static void promise3FirstRefusalThatFits() {
    checks.about(3, "OUTSIDE before STATE");
    TurfHeaps x = new TurfHeaps();
    checks.does(x, "AaA^", 2);
    checks.equal("fewer than none, and more watch", x.burners(-1), OUTSIDE);
    checks.equal("far fewer", x.burners(Integer.MIN_VALUE), OUTSIDE);
    checks.equal("none, and more watch", x.burners(0), STATE);
  }

  private static void promise3RefusedChangesNothing() {
    checks.about(3, "They change nothing");
    TurfHeaps x = drawnAndWatched();
    long[] before = Checks.stateOf(x);
    checks.equal("burners(1)", x.burners(1), STATE);
    checks.equal("burners(7)", x.burners(7), OUTSIDE);
    checks.equal("burners(-1)", x.burners(-1), OUTSIDE);
    checks.unchanged("what is refused", x, before);
    checks.equal("how many there were", x.burners(2), 2);
  }

  private static void promise24FirstSeven() {
    checks.about(24, "0 signs, 1 BURNERS, 2 KNOWN, 3 DRAWN, 4 WATCHED (bits each), 5 the night, 6 SIGHTS");
    TurfHeaps x = new TurfHeaps();
    x.burners(6);
    for (int heap = 0; heap < 6; heap++) {
      x.heap(heap, heap < 4 ? heap : 18 + heap, heap < 4 ? 9 : 1, heap < 4 ? 0 : 9);
    }
    checks.does(x, "F^D^.", 3);
    Checks.say(x, ".".repeat(60));
    for (int i = 0; i < 8; i++) {
      x.seen(i, 0);
    }
    int[] told = {60, 6, 7, 48, 40, 1, 8};
    for (int what = 0; what <= 6; what++) {
      checks.equal("told(" + what + ")", x.told(what), told[what]);
    }
  }

  private static void promise24OfAHeap() {
    checks.about(24, "10 and a HEAP: its CELL (NONE); 20 and a HEAP: HEAT; 30 and a HEAP: TURFS");
    TurfHeaps x = new TurfHeaps();
    for (int heap = 0; heap < 6; heap++) {
      x.heap(heap, 24 - heap, 9 - heap, heap + 1);
    }
    for (int heap = 0; heap < 6; heap++) {
      checks.equal("told(" + (10 + heap) + ")", x.told(10 + heap), 24 - heap);
      checks.equal("told(" + (20 + heap) + ")", x.told(20 + heap), 9 - heap);
      checks.equal("told(" + (30 + heap) + ")", x.told(30 + heap), heap + 1);
      x.heap(heap, -1, 0, 9);
      checks.equal("told(" + (10 + heap) + "), nowhere", x.told(10 + heap), NONE);
    }
  }

  private static void promise24Outside() {
    checks.about(24, "OUTSIDE");
    TurfHeaps x = new TurfHeaps();
    for (int what = -40; what <= 60; what++) {
      boolean asTold = what >= 0 && what <= 6 || what >= 10 && what <= 35 && what % 10 <= 5;
      if (!asTold) {
        checks.equal("told(" + what + ")", x.told(what), OUTSIDE);
      }
    }
    int[] more = {100, 110, 120, 130, 1010, 65536, Integer.MAX_VALUE, Integer.MIN_VALUE, Integer.MIN_VALUE + 10};
    for (int what : more) {
      checks.equal("told(" + what + ")", x.told(what), OUTSIDE);
    }
  }

  private static void promise24ChangesNothing() {
    checks.about(24, "They change nothing");
    TurfHeaps x = drawnAndWatched();
    Checks.say(x, "A+");
    x.seen(3, 3);
    long[] before = Checks.stateOf(x);
    x.told(7);
    x.told(-1);
    x.told(40);
    checks.unchanged("told", x, before);
  }
}
