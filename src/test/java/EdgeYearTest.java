/** Each edge that the document names for year, image and restore: promises 21 to 23. */
public final class EdgeYearTest {
  private static final int NONE = TurfHeaps.NONE, OUTSIDE = TurfHeaps.OUTSIDE, STATE = TurfHeaps.STATE,
      NO = TurfHeaps.NO;
  private static final int[] FAR_OFF = {Integer.MIN_VALUE, -65536, 65536, Integer.MAX_VALUE};
  private static final Checks checks = new Checks();

  public static void main(String[] args) {
    years();
    images();
    checks.end("EdgeYearTest");
  }

  // ---- promise 21

  private static void years() {
    promise21Seeds();
    promise21ActsOneTo99();
    promise21OutsideWhat();
    promise21LeftOverBy65537();
    promise21OfWhichHeap();
    promise21WhichKind();
    promise21WhichCell();
    promise21EachIfThatCanBe();
    promise21NoNightBehind99();
    promise21FromAllAsItIs();
    promise21HowManyAreKnown();
    promise21HowManyAreDrawn();
    promise21HeatOfAll();
    promise21NothingIsDoneInFact();
    promise21RefusedChangesNothing();
  }

  private static int next(int x) {
    return (int) ((75L * x + 74) % 65537);
  }

  private static void promise21Seeds() {
    checks.about(21, "a seed (0 to 9999); OUTSIDE");
    TurfHeaps x = new TurfHeaps();
    x.heap(0, 12, 1, 5);
    for (int what = 0; what <= 2; what++) {
      checks.equal("seed 0", x.year(0, 1, what), what / 2);
      checks.equal("seed 9999", x.year(9999, 1, what), what / 2);
      checks.equal("seed 10000", x.year(10000, 1, what), OUTSIDE);
      checks.equal("seed -1", x.year(-1, 1, what), OUTSIDE);
      for (int seed : FAR_OFF) {
        checks.equal("seed " + seed, x.year(seed, 1, what), OUTSIDE);
      }
    }
  }

  private static void promise21ActsOneTo99() {
    checks.about(21, "of m ACTS (1 to 99); OUTSIDE");
    TurfHeaps x = new TurfHeaps();
    Model model = new Model();
    for (int heap = 0; heap < 6; heap++) {
      x.heap(heap, 4 * heap, 2, 5);
      model.heap(heap, 4 * heap, 2, 5);
    }
    for (int m = 1; m <= 99; m++) {
      for (int what = 0; what <= 2; what++) {
        checks.equal("year(7, " + m + ", " + what + ")", x.year(7, m, what), model.year(7, m, what));
      }
    }
    checks.equal("m 0", x.year(7, 0, 0), OUTSIDE);
    checks.equal("m 100", x.year(7, 100, 0), OUTSIDE);
    checks.equal("m -1", x.year(7, -1, 2), OUTSIDE);
    for (int m : FAR_OFF) {
      checks.equal("m " + m, x.year(7, m, 0), OUTSIDE);
    }
  }

  private static void promise21OutsideWhat() {
    checks.about(21, "KNOWN (what = 0), DRAWN (1), HEAT (2); OUTSIDE");
    TurfHeaps x = new TurfHeaps();
    checks.equal("what 3", x.year(0, 1, 3), OUTSIDE);
    checks.equal("what -1", x.year(0, 1, -1), OUTSIDE);
    for (int what : FAR_OFF) {
      checks.equal("what " + what, x.year(0, 1, what), OUTSIDE);
    }
  }

  /** A heap that flares on the first night shows whether the first act is a night. */
  private static void promise21LeftOverBy65537() {
    checks.about(21, "x becomes (75 x and 74) left over by 65537 .. 5 to 7 a night");
    TurfHeaps x = new TurfHeaps();
    for (int seed = 0; seed <= 9999; seed++) {
      if (seed % 500 == 0) {
        x = new TurfHeaps();
        x.heap(0, 0, 9, 0);
      }
      boolean isNight = next(seed) / 6 % 8 >= 5;
      checks.equal("year(" + seed + ", 1, 0)", x.year(seed, 1, 0), isNight ? 1 : 0);
    }
  }

  private static void promise21OfWhichHeap() {
    checks.about(21, "of HEAP x left over by 6 .. 3 it is lit");
    for (int heap = 0; heap < 6; heap++) {
      TurfHeaps x = new TurfHeaps();
      x.heap(heap, 12, 0, 5);
      for (int seed = 0; seed < 500; seed++) {
        int drawn = next(seed);
        boolean isLit = drawn % 6 == heap && drawn / 6 % 8 == 3;
        checks.equal("heap " + heap + ", year(" + seed + ", 1, 2)", x.year(seed, 1, 2), isLit ? 3 : 0);
      }
    }
  }

  /** A first act that is so, then a night: what it did shows in the heat, or in what is known. */
  private static void promise21WhichKind() {
    checks.about(21, "1 a TURF more, 2 one less, 4 it is WATCHED");
    int[] heats = {9, 8, 9, 9, 9};
    int[] seeds = new int[6];
    int found = 0;
    for (int seed = 0; seed <= 9999; seed++) {
      int first = next(seed);
      int kind = first / 6 % 8;
      if (first % 6 == 2 && (kind == 1 || kind == 2 || kind == 4) && next(first) / 6 % 8 >= 5) {
        TurfHeaps x = new TurfHeaps();
        x.heap(2, 12, 9, 5);
        checks.equal("kind " + kind + ", year(" + seed + ", 2, 2)", x.year(seed, 2, 2), heats[kind]);
        checks.equal("kind " + kind + ", year(" + seed + ", 2, 0)", x.year(seed, 2, 0), kind == 2 ? 1 : 0);
        x.heap(2, 12, 9, 4);
        checks.equal("kind " + kind + ", year(" + seed + ", 2, 2), 4 turfs", x.year(seed, 2, 2), kind == 4 ? 5 : 9);
        checks.equal("kind " + kind + ", year(" + seed + ", 2, 0), 4 turfs", x.year(seed, 2, 0), kind == 2 ? 1 : 0);
        seeds[kind]++;
        found++;
      }
    }
    checks.isTrue("there are such seeds", found > 100 && seeds[1] > 10 && seeds[2] > 10 && seeds[4] > 10);
  }

  /** A heap that is stacked and lit at once is alight, unless another one stands on just that cell. */
  private static void promise21WhichCell() {
    checks.about(21, "z being x by 48 (cut): 0 it is STACKED on CELL z left over by 25");
    int found = 0;
    for (int seed = 0; seed <= 9999; seed++) {
      int first = next(seed);
      int second = next(first);
      if (first / 6 % 8 != 0 || second / 6 % 8 != 3 || first % 6 != second % 6) {
        continue;
      }
      TurfHeaps x = new TurfHeaps();
      for (int cell = 0; cell <= 24; cell++) {
        x.heap((first + 1) % 6, cell, 0, 5);
        boolean isTaken = first / 48 % 25 == cell;
        checks.equal("year(" + seed + ", 2, 2), taken " + cell, x.year(seed, 2, 2), isTaken ? 0 : 3);
      }
      found++;
    }
    checks.isTrue("there are such seeds", found > 10);
  }

  private static void promise21EachIfThatCanBe() {
    checks.about(21, "each if that can be");
    TurfHeaps x = new TurfHeaps();
    x.burners(0);
    for (int heap = 0; heap < 6; heap++) {
      x.heap(heap, heap, 0, heap % 2 * 9);
    }
    TurfHeaps none = new TurfHeaps();
    TurfHeaps all = new TurfHeaps();
    for (int heap = 0; heap < 6; heap++) {
      all.heap(heap, 4 * heap, 9, 5);
    }
    for (int seed = 0; seed < 400; seed++) {
      checks.equal("none can be lit while all are nowhere", none.year(seed, 1, 2), 0);
      checks.equal("none can be lit or stacked while all are alight", all.year(seed, 1, 2), 54);
      boolean isLit = next(seed) / 6 % 8 == 3;
      checks.equal("unlit ones: " + seed, x.year(seed, 1, 2), isLit ? 3 : 0);
    }
    TurfHeaps y = new TurfHeaps();
    y.burners(0);
    y.heap(0, 0, 9, 0);
    for (int seed = 0; seed < 400; seed++) {
      int first = next(seed);
      if (first / 6 % 8 == 4 && next(first) / 6 % 8 >= 5) {
        checks.equal("no burner can watch: " + seed, y.year(seed, 2, 0), 1);
      }
    }
  }

  private static void promise21NoNightBehind99() {
    checks.about(21, "each if that can be: no night behind night 99");
    TurfHeaps x = checks.late(99);
    x.heap(3, 0, 9, 0);
    TurfHeaps y = checks.late(98);
    y.heap(3, 0, 1, 5);
    y.burners(0);
    for (int seed = 0; seed < 300; seed++) {
      checks.equal("night 99, seed " + seed, x.year(seed, 99, 0), 0);
      checks.equal("night 98, a heap that needs two nights, seed " + seed, y.year(seed, 8, 0), 0);
    }
    TurfHeaps z = checks.late(98);
    z.heap(3, 0, 9, 0);
    for (int seed = 0; seed < 300; seed++) {
      boolean isNight = next(seed) / 6 % 8 >= 5;
      checks.equal("night 98, seed " + seed, z.year(seed, 1, 0), isNight ? 1 : 0);
    }
  }

  private static void promise21FromAllAsItIs() {
    checks.about(21, "from all as it is");
    TurfHeaps x = new TurfHeaps();
    x.heap(0, 0, 9, 0);
    x.heap(1, 24, 1, 9);
    checks.does(x, ".A^", 2);
    TurfHeaps idle = new TurfHeaps();
    for (int seed = 0; seed < 60; seed++) {
      int kind = next(seed) / 6 % 8;
      int heap = next(seed) % 6;
      if (kind == 1 || kind == 2) {
        checks.equal("known already: " + seed, x.year(seed, 1, 0), 1);
        checks.equal("drawn already: " + seed, x.year(seed, 1, 1), 1);
        checks.equal("hot already: " + seed, x.year(seed, 1, 2), 9);
      }
      if (kind >= 5) {
        checks.equal("watched already: " + seed, x.year(seed, 1, 2), 5);
      }
      if (kind == 3 && heap == 1) {
        checks.equal("drawn, so not lit: " + seed, x.year(seed, 1, 2), 9);
      }
      checks.equal("a new object has nothing: " + seed, idle.year(seed, 1, 2), 0);
    }
    Checks.say(x, "A");
    checks.equal("the pad is no matter", x.year(0, 1, 0), 1);
  }

  /** Seed 6 makes 524, and 524 by 6 is 87: a night. */
  private static TurfHeaps nightOf(int flaring, int drawn) {
    TurfHeaps x = new TurfHeaps();
    int[] cells = {0, 4, 12, 20, 24, 2};
    for (int heap = 0; heap < flaring + drawn; heap++) {
      x.heap(5 - heap, cells[heap], heap < flaring ? 9 : 1, heap < flaring ? 0 : 9);
    }
    return x;
  }

  private static void promise21HowManyAreKnown() {
    checks.about(21, "how many are KNOWN");
    for (int flaring = 0; flaring <= 6; flaring++) {
      checks.equal(flaring + " flare", nightOf(flaring, 6 - flaring).year(6, 1, 0), flaring);
    }
  }

  private static void promise21HowManyAreDrawn() {
    checks.about(21, "how many are .. DRAWN");
    for (int drawn = 0; drawn <= 6; drawn++) {
      checks.equal(drawn + " are drawn", nightOf(6 - drawn, drawn).year(6, 1, 1), drawn);
    }
  }

  private static void promise21HeatOfAll() {
    checks.about(21, "HEAT of all");
    for (int flaring = 0; flaring <= 6; flaring++) {
      checks.equal(flaring + " flare", nightOf(flaring, 6 - flaring).year(6, 1, 2), 9 * flaring);
    }
    TurfHeaps x = new TurfHeaps();
    for (int heap = 0; heap < 6; heap++) {
      x.heap(heap, heap, heap + 1, 5);
    }
    checks.equal("1 to 6", x.year(6, 1, 2), 21);
  }

  private static void promise21NothingIsDoneInFact() {
    checks.about(21, "Nothing is DONE in fact");
    TurfHeaps x = nightOf(3, 3);
    Checks.say(x, "A^.");
    x.seen(4, 4);
    x.image(0);
    long[] before = Checks.stateOf(x);
    int first = x.year(6, 99, 2);
    checks.equal("the same year again", x.year(6, 99, 2), first);
    checks.equal("a night", x.year(6, 1, 0), 3);
    checks.unchanged("year", x, before);
    x.restore(0);
    checks.unchanged("year, restored", x, before);
  }

  private static void promise21RefusedChangesNothing() {
    checks.about(21, "They change nothing");
    TurfHeaps x = nightOf(3, 3);
    long[] before = Checks.stateOf(x);
    x.year(10000, 1, 0);
    x.year(0, 0, 0);
    x.year(0, 100, 1);
    x.year(0, 1, 3);
    checks.unchanged("year", x, before);
  }

  // ---- promises 22 and 23

  private static void images() {
    promise22TwoImages();
    promise22OtherImages();
    promise22KeepsAgain();
    promise22ChangesNothing();
    promise23ItWasNotKept();
    promise23OtherImages();
    promise23RefusedChangesNothing();
    promise23CellsHeatTurfs();
    promise23KnownDrawnWatched();
    promise23Burners();
    promise23TheNight();
    promise23Sights();
    promise23TheEighthSight();
    promise23ThePadStays();
    promise23AsOftenAsAsked();
    promise23WhatIsDoneLaterIsNoMatter();
    promise23AnImageHoldsNoImage();
  }

  private static void promise22TwoImages() {
    checks.about(22, "kept in an IMAGE (0, 1): 1");
    TurfHeaps x = new TurfHeaps();
    x.heap(0, 1, 1, 1);
    checks.equal("image(0)", x.image(0), 1);
    x.heap(0, 2, 2, 2);
    checks.equal("image(1)", x.image(1), 1);
    x.heap(0, 3, 3, 3);
    checks.equal("restore(0)", x.restore(0), 1);
    checks.equal("as kept in 0", x.told(10), 1);
    checks.equal("restore(1)", x.restore(1), 1);
    checks.equal("as kept in 1", x.told(10), 2);
  }

  private static void promise22OtherImages() {
    checks.about(22, "OUTSIDE");
    TurfHeaps x = new TurfHeaps();
    checks.equal("image(2)", x.image(2), OUTSIDE);
    checks.equal("image(-1)", x.image(-1), OUTSIDE);
    for (int n : FAR_OFF) {
      checks.equal("image(" + n + ")", x.image(n), OUTSIDE);
    }
    checks.equal("0 was not kept by these", x.restore(0), STATE);
    checks.equal("1 was not kept by these", x.restore(1), STATE);
  }

  private static void promise22KeepsAgain() {
    checks.about(22, "kept again: as it is then");
    TurfHeaps x = new TurfHeaps();
    x.heap(0, 1, 1, 1);
    x.seen(0, 0);
    checks.equal("image(1)", x.image(1), 1);
    x.heap(0, 2, 2, 2);
    x.forget();
    checks.equal("image(1) again", x.image(1), 1);
    x.heap(0, 3, 3, 3);
    x.seen(1, 1);
    x.restore(1);
    checks.equal("the cell", x.told(10), 2);
    checks.equal("sights", x.told(6), 0);
  }

  private static void promise22ChangesNothing() {
    checks.about(22, "kept: nothing is otherwise by it");
    TurfHeaps x = nightOf(2, 2);
    checks.does(x, ".F^", 2);
    Checks.say(x, "A+B");
    x.seen(5, 5);
    long[] before = Checks.stateOf(x);
    x.image(0);
    x.image(2);
    checks.unchanged("image", x, before);
  }

  private static void promise23ItWasNotKept() {
    checks.about(23, "STATE: it was not");
    TurfHeaps x = new TurfHeaps();
    checks.equal("restore(0)", x.restore(0), STATE);
    checks.equal("restore(1)", x.restore(1), STATE);
    x.image(0);
    checks.equal("restore(1), 0 alone being kept", x.restore(1), STATE);
    checks.equal("restore(0)", x.restore(0), 1);
    TurfHeaps y = new TurfHeaps();
    y.image(1);
    checks.equal("restore(0), 1 alone being kept", y.restore(0), STATE);
    checks.equal("restore(1)", y.restore(1), 1);
  }

  private static void promise23OtherImages() {
    checks.about(23, "OUTSIDE");
    TurfHeaps x = new TurfHeaps();
    for (int round = 0; round <= 1; round++) {
      checks.equal("restore(2)", x.restore(2), OUTSIDE);
      checks.equal("restore(-1)", x.restore(-1), OUTSIDE);
      for (int n : FAR_OFF) {
        checks.equal("restore(" + n + ")", x.restore(n), OUTSIDE);
      }
      x.image(0);
      x.image(1);
    }
  }

  private static void promise23RefusedChangesNothing() {
    checks.about(23, "They change nothing");
    TurfHeaps x = nightOf(2, 2);
    checks.does(x, ".F^", 2);
    Checks.say(x, "A+B");
    x.seen(5, 5);
    long[] before = Checks.stateOf(x);
    checks.equal("restore(0)", x.restore(0), STATE);
    checks.equal("restore(1)", x.restore(1), STATE);
    checks.equal("restore(2)", x.restore(2), OUTSIDE);
    checks.unchanged("restore", x, before);
  }

  private static void promise23CellsHeatTurfs() {
    checks.about(23, "as it was when it was kept: CELL, HEAT, TURFS of each HEAP");
    TurfHeaps x = new TurfHeaps();
    for (int heap = 0; heap < 5; heap++) {
      x.heap(heap, heap * 5, heap + 3, heap);
    }
    x.image(0);
    for (int heap = 0; heap < 6; heap++) {
      x.heap(heap, 24 - heap, heap, 9 - heap);
    }
    x.restore(0);
    for (int heap = 0; heap < 5; heap++) {
      checks.equal("cell of " + heap, x.told(10 + heap), heap * 5);
      checks.equal("heat of " + heap, x.told(20 + heap), heap + 3);
      checks.equal("turfs of " + heap, x.told(30 + heap), heap);
    }
    checks.equal("nowhere again", x.told(15), NONE);
    checks.equal("turfs at first again", x.told(35), 5);
    checks.equal("the cell it left is free", x.heap(5, 24, 0, 0), NONE);
  }

  private static void promise23KnownDrawnWatched() {
    checks.about(23, "as it was when it was kept: KNOWN, DRAWN, WATCHED");
    TurfHeaps x = nightOf(1, 1);
    checks.does(x, ".F^", 2);
    x.image(0);
    TurfHeaps y = nightOf(1, 1);
    y.image(0);
    x.heap(0, 8, 9, 0);
    x.heap(1, 16, 1, 9);
    checks.does(x, ".F^A^B^E-", 5);
    checks.isTrue("all is otherwise", x.told(2) != 32 && x.told(3) != 16 && x.told(4) != 32);
    x.restore(0);
    checks.equal("known", x.told(2), 32);
    checks.equal("drawn", x.told(3), 16);
    checks.equal("watched", x.told(4), 32);
    checks.does(y, ".F^", 2);
    y.restore(0);
    checks.equal("known no more", y.told(2), 0);
    checks.equal("drawn no more", y.told(3), 0);
    checks.equal("watched no more", y.told(4), 0);
  }

  private static void promise23Burners() {
    checks.about(23, "as it was when it was kept: BURNERS");
    TurfHeaps x = new TurfHeaps();
    x.burners(1);
    x.image(1);
    x.burners(6);
    checks.does(x, "AaBbA^B^", 4);
    x.restore(1);
    checks.equal("told(1)", x.told(1), 1);
    checks.judged(x, "AaBbA^B^", 3, 6);
  }

  private static void promise23TheNight() {
    checks.about(23, "as it was when it was kept: the night");
    TurfHeaps x = checks.late(98);
    x.image(1);
    checks.does(x, ".", 1);
    checks.judged(x, ".", 0, 7);
    x.restore(1);
    checks.equal("told(5)", x.told(5), 98);
    checks.judged(x, ".", NONE, NONE);
    TurfHeaps y = new TurfHeaps();
    y.image(0);
    checks.does(y, "...", 3);
    y.restore(0);
    checks.equal("night 0", y.told(5), 0);
  }

  private static void promise23Sights() {
    checks.about(23, "as it was when it was kept: SIGHTS");
    TurfHeaps x = new TurfHeaps();
    x.seen(0, 3);
    x.seen(1, 5);
    x.image(0);
    x.forget();
    for (int i = 0; i < 8; i++) {
      x.seen(i, 6);
    }
    x.image(1);
    x.restore(0);
    checks.equal("two", x.told(6), 2);
    checks.equal("what they tell", x.matter(0), 32);
    checks.equal("one fits", x.matter(-1), 1);
    checks.equal("room for one more", x.seen(2, 0), 3);
    x.restore(1);
    checks.equal("eight", x.told(6), 8);
    checks.equal("what these tell", x.matter(0), 60);
    checks.equal("no room", x.seen(2, 0), TurfHeaps.FULL);
  }

  private static void sights(TurfHeaps x, int last) {
    x.forget();
    for (int i = 0; i < 7; i++) {
      x.seen(0, 2);
    }
    x.seen(1, last);
  }

  private static void promise23TheEighthSight() {
    checks.about(23, "as it was when it was kept: SIGHTS, 8 at most");
    TurfHeaps x = new TurfHeaps();
    sights(x, 2);
    x.image(0);
    sights(x, 6);
    x.image(1);
    sights(x, 3);
    x.restore(0);
    checks.equal("the eighth told 2", x.matter(0), 20);
    x.restore(1);
    checks.equal("the eighth told 6", x.matter(0), 24);
    x.restore(0);
    checks.equal("the eighth told 2, again", x.matter(0), 20);
  }

  private static void promise23ThePadStays() {
    checks.about(23, "All but the PAD");
    TurfHeaps x = new TurfHeaps();
    Checks.say(x, "A");
    x.image(0);
    Checks.tell(x, "Ba.B+");
    x.restore(0);
    checks.equal("told(0)", x.told(0), 5);
    checks.equal("its signs", x.fault(), NONE);
    checks.equal("can be done", x.done(), 3);
    checks.equal("it is done", x.told(31), 6);
    x.restore(0);
    checks.equal("the empty pad stays empty", x.told(0), 0);
    Checks.say(x, ".".repeat(59) + "!");
    x.restore(0);
    checks.equal("the full pad stays full", x.say('.'), TurfHeaps.FULL);
    checks.equal("its fault too", x.done(), NO);
  }

  private static void promise23AsOftenAsAsked() {
    checks.about(23, "restored as often as asked");
    TurfHeaps x = nightOf(2, 2);
    x.seen(3, 3);
    long[] before = Checks.stateOf(x);
    x.image(0);
    for (int round = 0; round < 3; round++) {
      x.heap(0, 8, 9, 0);
      checks.does(x, "..F^", 3);
      x.seen(4, 4);
      x.burners(3 + round);
      checks.equal("restore(0)", x.restore(0), 1);
      checks.unchanged("round " + round, x, before);
    }
  }

  private static void promise23WhatIsDoneLaterIsNoMatter() {
    checks.about(23, "as it was when it was kept, not as it was made later");
    TurfHeaps x = new TurfHeaps();
    x.heap(0, 0, 5, 5);
    x.image(0);
    x.image(1);
    x.restore(0);
    x.heap(0, 1, 6, 6);
    x.seen(1, 1);
    checks.does(x, "A^.", 2);
    x.restore(1);
    checks.equal("cell", x.told(10), 0);
    checks.equal("sights", x.told(6), 0);
    checks.equal("watched", x.told(4), 0);
    x.heap(0, 2, 7, 7);
    x.restore(0);
    checks.equal("heat", x.told(20), 5);
    checks.equal("turfs", x.told(30), 5);
  }

  private static void promise23AnImageHoldsNoImage() {
    checks.about(23, "the other IMAGE stays as it is");
    TurfHeaps x = new TurfHeaps();
    x.image(0);
    x.heap(0, 0, 5, 5);
    x.image(1);
    x.restore(0);
    checks.equal("nowhere", x.told(10), NONE);
    checks.equal("1 is kept still", x.restore(1), 1);
    checks.equal("as it was", x.told(20), 5);
    checks.equal("0 is kept still", x.restore(0), 1);
    checks.equal("nowhere again", x.told(10), NONE);
  }
}
