/** Promises 7 to 10: judge, done, behind, then. */
public final class WeeksTest {
  private static final int NONE = TurfHeaps.NONE, UNKNOWN = TurfHeaps.UNKNOWN, OUTSIDE = TurfHeaps.OUTSIDE,
      NO = TurfHeaps.NO;
  private static final Checks checks = new Checks();

  public static void main(String[] args) {
    promise7EachReason();
    promise7LeastReason();
    promise7Nights();
    promise7Refused();
    promise8Done();
    promise8DoneRefused();
    promise9Behind();
    promise9BehindRefused();
    promise10Then();
    promise10FirstFlare();
    promise10ThenRefused();
    nightsOfOneHeap();
    nightsOfHeapsThatAreNear();
    checks.end("WeeksTest");
  }

  private static void promise7EachReason() {
    TurfHeaps x = new TurfHeaps();
    x.heap(0, 0, 4, 9);
    x.heap(1, 1, 0, 0);
    checks.judged(x, "", NONE, NONE);
    checks.judged(x, "B+B-B*", NONE, NONE);
    checks.judged(x, "C+", 0, 1);
    checks.judged(x, "C-", 0, 1);
    checks.judged(x, "C*", 0, 1);
    checks.judged(x, "C^", 0, 1);
    checks.judged(x, "Ba", 0, 2);
    checks.judged(x, "Ac", 0, 3);
    checks.judged(x, "Aa", 0, 3);
    checks.judged(x, "Bb", NONE, NONE);
    checks.judged(x, "A*", 0, 3);
    checks.judged(x, ".B*", NONE, NONE);
    checks.judged(x, ".A*", 1, 4);
    checks.judged(x, ".AaA*", NONE, NONE);
    checks.judged(x, "A+", 0, 5);
    checks.judged(x, "B-", 0, 5);
    checks.judged(x, "A-A+A+", 2, 5);
    checks.judged(x, "CcA^B^C^", 3, 6);
    checks.judged(x, "CcA^B^A^C^", NONE, NONE);
    checks.judged(x, "A^A^A^A^", NONE, NONE);
    checks.judged(x, ".....B*B*C+", 6, 3);
    x.burners(0);
    checks.judged(x, "A^", 0, 6);
  }

  private static void promise7LeastReason() {
    TurfHeaps x = new TurfHeaps();
    x.heap(0, 0, 4, 0);
    x.heap(1, 1, 4, 0);
    x.burners(0);
    checks.judged(x, "Ab", 0, 2);
    checks.judged(x, "C^", 0, 1);
    checks.judged(x, "Ca", 0, 2);
    x.heap(2, -1, 0, 0);
    checks.judged(x, "C-", 0, 1);
    checks.judged(x, ".C-A+", 1, 1);
  }

  private static void promise7Nights() {
    TurfHeaps x = new TurfHeaps();
    String sixty = ".".repeat(60);
    Checks.tell(x, sixty);
    checks.equal("sixty nights", x.done(), 60);
    Checks.tell(x, sixty.substring(0, 38));
    checks.equal("night 98", x.done(), 38);
    checks.judged(x, ".", NONE, NONE);
    checks.judged(x, "..", 1, 7);
    checks.judged(x, "Aa.B+.", 2, 1);
    checks.judged(x, "Aa.A+.", 3, 7);
    Checks.tell(x, ".");
    checks.equal("night 99", x.done(), 1);
    checks.equal("told", x.told(5), 99);
    checks.judged(x, ".", 0, 7);
    checks.equal("no more", x.done(), NO);
    checks.judged(x, "AaA*", NONE, NONE);
  }

  private static void promise7Refused() {
    TurfHeaps x = new TurfHeaps();
    Checks.tell(x, "A+");
    long[] before = Checks.stateOf(x);
    checks.equal("judge 2", x.judge(2), OUTSIDE);
    checks.equal("judge -1", x.judge(-1), OUTSIDE);
    checks.equal("judge far off", x.judge(Integer.MIN_VALUE), OUTSIDE);
    checks.unchanged("judge", x, before);
    x.say('A');
    checks.equal("a fault: which", x.judge(0), NO);
    checks.equal("a fault: why", x.judge(1), NO);
    checks.equal("outside before a fault", x.judge(2), OUTSIDE);
    checks.equal("the pad stays", x.told(0), 3);
  }

  private static void promise8Done() {
    TurfHeaps x = new TurfHeaps();
    checks.equal("nothing told", x.done(), 0);
    Checks.tell(x, "Aa Am A- A* A^ . By B+");
    checks.equal("eight acts", x.done(), 8);
    checks.equal("the pad is empty", x.told(0), 0);
    checks.equal("cell A", x.told(10), 12);
    checks.equal("heat A", x.told(20), 4);
    checks.equal("turfs A", x.told(30), 4);
    checks.equal("cell B", x.told(11), 24);
    checks.equal("heat B", x.told(21), 0);
    checks.equal("turfs B", x.told(31), 6);
    checks.equal("watched", x.told(4), 1);
    checks.equal("night", x.told(5), 1);
    checks.equal("no acts are left", x.done(), 0);
    checks.equal("nothing was done again", x.told(20), 4);
    Checks.tell(x, "A^B^Bb");
    checks.equal("watched as it was, when stacked anew", x.done(), 3);
    checks.equal("watched then", x.told(4), 2);
    checks.equal("turfs stay, when stacked anew", x.told(31), 6);
  }

  private static void promise8DoneRefused() {
    TurfHeaps x = new TurfHeaps();
    x.heap(0, 3, 2, 1);
    Checks.tell(x, ".A+.A");
    long[] before = Checks.stateOf(x);
    checks.equal("a fault", x.done(), NO);
    checks.unchanged("done with a fault", x, before);
    Checks.tell(x, ".A+.A*");
    before = Checks.stateOf(x);
    checks.equal("an act that can not be", x.done(), NO);
    checks.unchanged("done with an act that can not be", x, before);
  }

  private static void promise9Behind() {
    TurfHeaps x = new TurfHeaps();
    x.heap(1, 6, 2, 3);
    checks.equal("behind nothing: heat", x.behind(1, 0), 2);
    checks.equal("behind nothing: turfs", x.behind(1, 1), 3);
    checks.equal("behind nothing: cell", x.behind(1, 2), 6);
    checks.equal("nowhere", x.behind(0, 2), NONE);
    Checks.tell(x, "B-.B-.FaF*");
    checks.equal("heat", x.behind(1, 0), 9);
    checks.equal("turfs", x.behind(1, 1), 1);
    checks.equal("cell", x.behind(1, 2), 6);
    checks.equal("lit: heat", x.behind(5, 0), 3);
    checks.equal("lit: turfs", x.behind(5, 1), 5);
    checks.equal("lit: cell", x.behind(5, 2), 0);
    checks.equal("not done: heat", x.told(21), 2);
    checks.equal("not done: turfs", x.told(31), 3);
    checks.equal("not done: cell", x.told(15), NONE);
    checks.equal("not done: night", x.told(5), 0);
    checks.equal("not done: signs", x.told(0), 10);
  }

  private static void promise9BehindRefused() {
    TurfHeaps x = new TurfHeaps();
    Checks.tell(x, ".A*");
    long[] before = Checks.stateOf(x);
    checks.equal("heap 6", x.behind(6, 0), UNKNOWN);
    checks.equal("heap -1", x.behind(-1, 0), UNKNOWN);
    checks.equal("what 3", x.behind(0, 3), OUTSIDE);
    checks.equal("what -1", x.behind(0, -1), OUTSIDE);
    checks.equal("unknown before outside", x.behind(6, 3), UNKNOWN);
    checks.equal("can not be", x.behind(0, 0), NO);
    checks.equal("can not be, of another heap", x.behind(5, 2), NO);
    checks.unchanged("behind refused", x, before);
    Checks.tell(x, ".A");
    checks.equal("a fault", x.behind(0, 1), NO);
    checks.equal("outside before a fault", x.behind(0, 3), OUTSIDE);
    checks.equal("unknown before a fault", x.behind(7, 0), UNKNOWN);
  }

  private static void thenIs(TurfHeaps x, String text, int... due) {
    Checks.tell(x, text);
    for (int what = 0; what < due.length; what++) {
      checks.equal("then(" + what + ") of '" + text + "'", x.then(what), due[what]);
    }
  }

  private static void promise10Then() {
    TurfHeaps x = new TurfHeaps();
    x.heap(0, 0, 9, 4);
    x.heap(1, 14, 9, 2);
    x.heap(2, 24, 1, 8);
    thenIs(x, "", 0, 0, 0, 0, 0, NONE, NONE);
    thenIs(x, ".", 3, 4, 0, 2, 1, 0, 0);
    thenIs(x, "A^.", 2, 4, 1, 1, 1, 1, 1);
    thenIs(x, "A^B^.A^", 0, 4, 2, 0, 1, NONE, NONE);
    thenIs(x, "C-C-C-C-..", 3, 0, 0, 4, 2, 4, 0);
    thenIs(x, "A+.Cb.", 2, 0, 0, 2, 2, 1, 1);
    for (String act : new String[] {"Fd", "FdF+", "FdF-", "FdF*"}) {
      thenIs(x, act, 0, 0, 0, 0, 0, NONE, NONE);
    }
    thenIs(x, "FdF^", 0, 0, 32, 0, 0, NONE, NONE);
    checks.equal("nothing is known yet", x.told(2), 0);
    Checks.tell(x, ".");
    checks.equal("done", x.done(), 1);
    thenIs(x, "Cb", 3, 0, 0, 0, 1, NONE, NONE);
    thenIs(x, "A+.", 3, 4, 0, 1, 2, 1, 1);
  }

  /** A heap that is known already can be the first that flares in the text. */
  private static void promise10FirstFlare() {
    TurfHeaps x = new TurfHeaps();
    x.heap(5, 0, 9, 0);
    Checks.tell(x, ".");
    x.done();
    thenIs(x, "..", 32, 0, 0, 2, 3, 0, 5);
    x.heap(3, 24, 8, 4);
    thenIs(x, ".", 32, 0, 0, 1, 2, 0, 5);
    thenIs(x, "..", 40, 0, 0, 3, 3, 0, 5);
    thenIs(x, "F^..", 40, 0, 32, 1, 3, 2, 3);
  }

  private static void promise10ThenRefused() {
    TurfHeaps x = new TurfHeaps();
    Checks.tell(x, ".A*");
    long[] before = Checks.stateOf(x);
    checks.equal("what 7", x.then(7), OUTSIDE);
    checks.equal("what -1", x.then(-1), OUTSIDE);
    for (int what = 0; what <= 6; what++) {
      checks.equal("can not be: " + what, x.then(what), NO);
    }
    checks.unchanged("then refused", x, before);
    Checks.tell(x, "!");
    checks.equal("a fault", x.then(0), NO);
    checks.equal("outside before a fault", x.then(7), OUTSIDE);
  }

  /** One heap alone, by each heat and each number of turfs, watched or not. */
  private static void nightsOfOneHeap() {
    for (int heat = 1; heat <= 9; heat++) {
      TurfHeaps x = new TurfHeaps();
      for (int turfs = 0; turfs <= 9; turfs++) {
        x.heap(0, 12, heat, turfs);
        int more = heat + 5 - turfs;
        String name = "heat " + heat + ", turfs " + turfs;
        Checks.tell(x, ".");
        checks.equal(name, x.behind(0, 0), more <= 0 ? 0 : more >= 10 ? 9 : more);
        checks.equal(name + ": turfs stay", x.behind(0, 1), turfs);
        checks.equal(name + ": known", x.then(0), more >= 10 ? 1 : 0);
        checks.equal(name + ": drawn", x.then(1), more <= 0 ? 1 : 0);
        Checks.tell(x, "A^.");
        checks.equal(name + ", watched", x.behind(0, 0), more <= 0 ? 0 : more >= 10 ? 5 : more);
        checks.equal(name + ", watched: known", x.then(0), 0);
        checks.equal(name + ", watched: flared", x.then(3), 0);
        checks.equal(name + ", watched: still", x.then(2), 1);
      }
    }
  }

  private static void nightsOfHeapsThatAreNear() {
    TurfHeaps x = new TurfHeaps();
    x.heap(0, 12, 9, 4);
    x.heap(1, 14, 9, 4);
    x.heap(2, 13, 3, 5);
    x.heap(3, 22, 9, 1);
    x.heap(4, 17, 1, 9);
    x.heap(5, 11, 0, 6);
    Checks.tell(x, ".");
    checks.equal("three flare", x.then(3), 3);
    checks.equal("A is near to B and D", x.behind(0, 1), 2);
    checks.equal("B is near to A alone", x.behind(1, 1), 3);
    checks.equal("C is near to A and B", x.behind(2, 1), 3);
    checks.equal("D is near to A", x.behind(3, 1), 0);
    checks.equal("E is drawn that night, and has its turfs", x.behind(4, 1), 9);
    checks.equal("F is not alight", x.behind(5, 1), 6);
    checks.equal("E is drawn", x.then(1), 16);
    x.heap(2, 13, 3, 1);
    Checks.tell(x, ".");
    checks.equal("no less than none", x.behind(2, 1), 0);
    TurfHeaps y = new TurfHeaps();
    y.heap(0, 4, 9, 0);
    y.heap(1, 5, 1, 5);
    y.heap(2, 2, 1, 5);
    y.heap(3, 8, 1, 5);
    y.heap(4, 14, 1, 5);
    y.heap(5, 7, 1, 5);
    Checks.tell(y, ".");
    checks.equal("the row ends: not near", y.behind(1, 1), 5);
    checks.equal("two columns", y.behind(2, 1), 4);
    checks.equal("a row and a column", y.behind(3, 1), 4);
    checks.equal("two rows", y.behind(4, 1), 4);
    checks.equal("three", y.behind(5, 1), 5);
  }
}
