/** Promises 11 to 14: chain, cover, due, nods. */
public final class ChainsTest {
  private static final int NONE = TurfHeaps.NONE, UNKNOWN = TurfHeaps.UNKNOWN, OUTSIDE = TurfHeaps.OUTSIDE,
      STATE = TurfHeaps.STATE;
  private static final Checks checks = new Checks();

  public static void main(String[] args) {
    promise11Chain();
    promise11ChainRefused();
    promise12Cover();
    promise12LeastBits();
    promise12CoverRefused();
    promise13Due();
    promise13DueInAnyOrder();
    promise13DueRefused();
    promise14Nods();
    promise14NodsRefused();
    checks.end("ChainsTest");
  }

  private static void promise11Chain() {
    TurfHeaps x = new TurfHeaps();
    x.heap(5, 0, 1, 9);
    checks.equal("alone, with all turfs", x.chain(5), 32);
    x.heap(4, 2, 9, 2);
    x.heap(3, 4, 1, 2);
    x.heap(2, 14, 1, 2);
    x.heap(1, 24, 1, 2);
    x.heap(0, 22, 1, 2);
    checks.equal("each by the one before", x.chain(5), 63);
    checks.equal("the first has too many turfs", x.chain(0), 31);
    x.heap(2, 14, 1, 3);
    checks.equal("stopped by three turfs", x.chain(5), 56);
    checks.equal("but it flares, if it does so itself", x.chain(2), 4 + 8 + 16 + 2 + 1);
    x.heap(2, 14, 0, 0);
    checks.equal("stopped by one that is not alight", x.chain(5), 56);
    x.heap(2, -1, 0, 0);
    checks.equal("stopped by one that is nowhere", x.chain(1), 3);
    x.heap(2, 8, 5, 0);
    checks.equal("a row and a column apart", x.chain(3), 4 + 8 + 16);
    x.heap(2, 12, 5, 0);
    x.heap(4, 1, 9, 0);
    checks.equal("three apart", x.chain(3), 8);
    checks.equal("one by one", x.chain(2), 1 + 2 + 4);
    Checks.tell(x, "A^");
    x.done();
    checks.equal("watched or not", x.chain(2), 1 + 2 + 4);
  }

  private static void promise11ChainRefused() {
    TurfHeaps x = new TurfHeaps();
    x.heap(1, 3, 0, 0);
    x.heap(2, 4, 1, 9);
    Checks.tell(x, "...");
    x.heap(3, 24, 4, 9);
    Checks.tell(x, ".");
    x.done();
    long[] before = Checks.stateOf(x);
    checks.equal("heap 6", x.chain(6), UNKNOWN);
    checks.equal("heap -1", x.chain(-1), UNKNOWN);
    checks.equal("nowhere", x.chain(0), STATE);
    checks.equal("not lit", x.chain(1), STATE);
    checks.equal("drawn", x.chain(3), STATE);
    checks.unchanged("chain refused", x, before);
  }

  private static void covered(TurfHeaps x, int heap, int other, int count, int which) {
    checks.equal("cover(" + heap + ", " + other + ", 0)", x.cover(heap, other, 0), count);
    checks.equal("cover(" + heap + ", " + other + ", 1)", x.cover(heap, other, 1), which);
  }

  private static void promise12Cover() {
    TurfHeaps x = new TurfHeaps();
    x.heap(0, 0, 1, 9);
    x.heap(1, 2, 1, 2);
    x.heap(2, 4, 1, 2);
    covered(x, 0, 2, 1, 2);
    covered(x, 0, 1, NONE, NONE);
    covered(x, 1, 0, 0, 0);
    covered(x, 1, 2, NONE, NONE);
    covered(x, 2, 0, 0, 0);
    x.heap(3, 6, 1, 1);
    covered(x, 0, 2, 1, 2);
    x.heap(3, 8, 1, 1);
    covered(x, 0, 2, 1, 2);
    x.heap(4, 6, 1, 1);
    covered(x, 0, 2, 2, 10);
    x.heap(4, 6, 1, 3);
    covered(x, 0, 2, 1, 2);
    x.heap(2, 4, 1, 3);
    covered(x, 0, 2, 0, 0);
    long[] before = Checks.stateOf(x);
    x.cover(0, 2, 0);
    x.cover(1, 0, 1);
    checks.unchanged("cover", x, before);
  }

  private static void promise12LeastBits() {
    TurfHeaps x = new TurfHeaps();
    // A row of five: each between could be covered alone.
    x.heap(5, 0, 1, 0);
    x.heap(4, 2, 1, 0);
    x.heap(2, 4, 1, 0);
    x.heap(3, 14, 1, 0);
    x.heap(0, 24, 1, 0);
    covered(x, 5, 0, 1, 4);
    covered(x, 0, 5, 1, 4);
    covered(x, 5, 3, 1, 4);
    covered(x, 5, 2, 1, 16);
    // Three ways that are shut by the one in the middle, then one more way past it.
    x = new TurfHeaps();
    x.heap(4, 10, 1, 0);
    x.heap(5, 13, 1, 0);
    x.heap(3, 6, 1, 0);
    x.heap(2, 11, 1, 0);
    x.heap(1, 16, 1, 0);
    x.heap(0, 21, 1, 0);
    covered(x, 4, 5, 1, 4);
    x.heap(0, 12, 1, 0);
    covered(x, 4, 5, 2, 5);
    covered(x, 5, 4, 2, 5);
    covered(x, 3, 1, NONE, NONE);
  }

  private static void promise12CoverRefused() {
    TurfHeaps x = new TurfHeaps();
    x.heap(0, 0, 1, 0);
    x.heap(1, 1, 0, 0);
    long[] before = Checks.stateOf(x);
    checks.equal("heap 6", x.cover(6, 0, 0), UNKNOWN);
    checks.equal("heap -1", x.cover(-1, 0, 0), UNKNOWN);
    checks.equal("other 6", x.cover(0, 6, 0), UNKNOWN);
    checks.equal("other -1", x.cover(0, -1, 0), UNKNOWN);
    checks.equal("both one", x.cover(0, 0, 0), UNKNOWN);
    checks.equal("what 2", x.cover(0, 1, 2), OUTSIDE);
    checks.equal("what -1", x.cover(0, 1, -1), OUTSIDE);
    checks.equal("unknown before outside", x.cover(6, 0, 2), UNKNOWN);
    checks.equal("both one before outside", x.cover(2, 2, 2), UNKNOWN);
    checks.equal("the other is not alight", x.cover(0, 1, 0), STATE);
    checks.equal("the first is not alight", x.cover(1, 0, 1), STATE);
    checks.equal("both are not", x.cover(1, 2, 1), STATE);
    checks.unchanged("cover refused", x, before);
  }

  private static void drawn(int nights, long days, int n, int count, int which) {
    TurfHeaps x = new TurfHeaps();
    checks.equal("due(" + nights + ", " + days + ", " + n + ", 0)", x.due(nights, days, n, 0), count);
    checks.equal("due(" + nights + ", " + days + ", " + n + ", 1)", x.due(nights, days, n, 1), which);
  }

  private static void promise13Due() {
    drawn(1, 1, 1, 1, 1);
    drawn(1, 0, 1, 0, 0);
    drawn(9, 8, 1, 0, 0);
    drawn(9, 9, 1, 1, 1);
    drawn(9, 99, 1, 1, 1);
    drawn(12, 103, 2, 2, 3);
    drawn(12, 102, 2, 1, 1);
    drawn(12, 2, 2, 1, 2);
    drawn(99999999, 0, 8, 0, 0);
    drawn(99999999, 9999999999999999L, 8, 8, 255);
    drawn(99999999, 7171717171717171L, 8, 7, 127);
    drawn(11111119, 9L, 8, 1, 128);
    drawn(11111119, 101010101010109L, 8, 1, 1);
    drawn(321, 30306, 3, 2, 5);
  }

  /** Those with the earliest nights may stand last in the row. */
  private static void promise13DueInAnyOrder() {
    drawn(21, 301, 2, 2, 3);
    drawn(21, 201, 2, 1, 1);
    drawn(4321, 10060301L, 4, 4, 15);
    drawn(4321, 9060301L, 4, 3, 7);
    drawn(12345678, 3628211510060301L, 8, 5, 31);
    drawn(87654321, 3628211510060301L, 8, 8, 255);
  }

  private static void refusedDue(int nights, long days, int n, int what) {
    TurfHeaps x = new TurfHeaps();
    checks.equal("due(" + nights + ", " + days + ", " + n + ", " + what + ")", x.due(nights, days, n, what),
        OUTSIDE);
  }

  private static void promise13DueRefused() {
    refusedDue(1, 1, 0, 0);
    refusedDue(1, 1, -1, 0);
    refusedDue(111111111, 1, 9, 0);
    refusedDue(1, 1, Integer.MAX_VALUE, 0);
    refusedDue(1, 1, 2, 0);
    refusedDue(111, 1, 2, 0);
    refusedDue(0, 1, 1, 0);
    refusedDue(10, 1, 2, 0);
    refusedDue(101, 1, 3, 0);
    refusedDue(-1, 1, 1, 0);
    refusedDue(-11, 1, 2, 0);
    refusedDue(Integer.MIN_VALUE, 1, 8, 0);
    refusedDue(Integer.MAX_VALUE, 1, 8, 0);
    refusedDue(1, 100, 1, 0);
    refusedDue(11, 10000, 2, 0);
    refusedDue(11111111, 10000000000000000L, 8, 0);
    refusedDue(11111111, Long.MAX_VALUE, 8, 0);
    refusedDue(11111111, Long.MIN_VALUE, 8, 0);
    refusedDue(1, -1, 1, 0);
    refusedDue(1, 1, 1, 2);
    refusedDue(1, 1, 1, -1);
    TurfHeaps x = new TurfHeaps();
    long[] before = Checks.stateOf(x);
    x.due(101, 1, 3, 0);
    x.due(111, 1, 3, 1);
    checks.unchanged("due", x, before);
    checks.equal("a refused one leaves nothing behind", x.due(1, 0, 1, 0), 0);
  }

  private static void promise14Nods() {
    TurfHeaps x = new TurfHeaps();
    checks.equal("no nights", x.nods(1, 1, 1, 1, 0, 0), 0);
    checks.equal("no nights: the first all the same", x.nods(1, 1, 1, 1, 0, 1), 2);
    checks.equal("one night", x.nods(1, 1, 1, 1, 1, 0), 0);
    checks.equal("two nights", x.nods(1, 1, 1, 1, 2, 0), 1);
    checks.equal("the last night of all", x.nods(1, 9, 1, 9, 9999, 0), 8999);
    checks.equal("the first", x.nods(1, 9, 1, 9, 9999, 1), 2);
    checks.equal("far apart: none yet", x.nods(9, 1, 8, 1, 89, 0), 0);
    checks.equal("far apart: the first, beyond", x.nods(9, 1, 8, 1, 89, 1), 90);
    checks.equal("far apart: one", x.nods(9, 1, 8, 1, 90, 0), 1);
    checks.equal("far apart: two", x.nods(9, 1, 8, 1, 180, 0), 2);
    checks.equal("each other one: who is who", x.nods(2, 3, 1, 4, 7, 0), 3);
    checks.equal("and turned", x.nods(1, 4, 2, 3, 7, 0), 3);
    checks.equal("its first", x.nods(2, 3, 1, 4, 7, 1), 3);
    checks.equal("all the longest", x.nods(9, 9, 9, 9, 9999, 0), 4995);
    checks.equal("all the longest: the first", x.nods(9, 9, 9, 9, 9999, 1), 10);
  }

  private static void promise14NodsRefused() {
    TurfHeaps x = new TurfHeaps();
    long[] before = Checks.stateOf(x);
    int[] bad = {0, 10, -1, Integer.MIN_VALUE, Integer.MAX_VALUE};
    for (int number : bad) {
      checks.equal("a " + number, x.nods(number, 1, 1, 1, 1, 0), OUTSIDE);
      checks.equal("b " + number, x.nods(1, number, 1, 1, 1, 0), OUTSIDE);
      checks.equal("c " + number, x.nods(1, 1, number, 1, 1, 0), OUTSIDE);
      checks.equal("d " + number, x.nods(1, 1, 1, number, 1, 1), OUTSIDE);
    }
    checks.equal("n -1", x.nods(1, 1, 1, 1, -1, 0), OUTSIDE);
    checks.equal("n 10000", x.nods(1, 1, 1, 1, 10000, 1), OUTSIDE);
    checks.equal("what 2", x.nods(1, 1, 1, 1, 1, 2), OUTSIDE);
    checks.equal("what -1", x.nods(1, 1, 1, 1, 1, -1), OUTSIDE);
    checks.unchanged("nods refused", x, before);
  }
}
