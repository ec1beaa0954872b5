/** Promises 1 to 3 and 24: a new object, heap, burners, told. */
public final class HeapsTest {
  private static final int NONE = TurfHeaps.NONE, UNKNOWN = TurfHeaps.UNKNOWN, OUTSIDE = TurfHeaps.OUTSIDE,
      STATE = TurfHeaps.STATE;
  private static final Checks checks = new Checks();

  public static void main(String[] args) {
    promise1NewObject();
    promise2Heap();
    promise2HeapTakesBackWhatActsDid();
    promise2HeapRefused();
    promise3Burners();
    promise3BurnersRefused();
    promise24Told();
    promise24ToldRefused();
    checks.end("HeapsTest");
  }

  private static void promise1NewObject() {
    TurfHeaps x = new TurfHeaps();
    checks.equal("new: signs", x.told(0), 0);
    checks.equal("new: burners", x.told(1), 2);
    checks.equal("new: known", x.told(2), 0);
    checks.equal("new: drawn", x.told(3), 0);
    checks.equal("new: watched", x.told(4), 0);
    checks.equal("new: night", x.told(5), 0);
    checks.equal("new: sights", x.told(6), 0);
    for (int heap = 0; heap < 6; heap++) {
      checks.equal("new: cell of " + heap, x.told(10 + heap), NONE);
      checks.equal("new: heat of " + heap, x.told(20 + heap), 0);
      checks.equal("new: turfs of " + heap, x.told(30 + heap), 5);
    }
    checks.equal("new: no image 0", x.restore(0), STATE);
    checks.equal("new: no image 1", x.restore(1), STATE);
    TurfHeaps other = new TurfHeaps();
    other.heap(0, 0, 9, 9);
    other.burners(6);
    other.say('.');
    checks.equal("objects are apart: cell", x.told(10), NONE);
    checks.equal("objects are apart: burners", x.told(1), 2);
    checks.equal("objects are apart: signs", x.told(0), 0);
  }

  private static void promise2Heap() {
    TurfHeaps x = new TurfHeaps();
    checks.equal("heap put first", x.heap(5, 24, 9, 0), NONE);
    checks.equal("its cell", x.told(15), 24);
    checks.equal("its heat", x.told(25), 9);
    checks.equal("its turfs", x.told(35), 0);
    checks.equal("put elsewhere", x.heap(5, 0, 0, 9), 24);
    checks.equal("its cell then", x.told(15), 0);
    checks.equal("its heat then", x.told(25), 0);
    checks.equal("its turfs then", x.told(35), 9);
    checks.equal("put where it is", x.heap(5, 0, 1, 4), 0);
    checks.equal("the cell left is free", x.heap(4, 24, 0, 0), NONE);
    checks.equal("nowhere again", x.heap(5, -1, 0, 3), 0);
    checks.equal("its cell nowhere", x.told(15), NONE);
    checks.equal("its heat nowhere", x.told(25), 0);
    checks.equal("its turfs nowhere", x.told(35), 3);
    checks.equal("nowhere from nowhere", x.heap(5, -1, 0, 7), NONE);
    checks.equal("two may be nowhere", x.heap(3, -1, 0, 7), NONE);
    checks.equal("its turfs", x.told(33), 7);
    checks.equal("other heaps stay", x.told(14), 24);
  }

  private static void promise2HeapTakesBackWhatActsDid() {
    TurfHeaps x = new TurfHeaps();
    x.heap(0, 0, 9, 0);
    x.heap(1, 24, 1, 9);
    Checks.tell(x, ". B^ A^");
    checks.equal("flared, drawn, watched", x.done(), 3);
    checks.equal("known", x.told(2), 1);
    checks.equal("drawn", x.told(3), 2);
    checks.equal("watched", x.told(4), 3);
    checks.equal("put again", x.heap(1, 24, 0, 5), 24);
    checks.equal("not drawn", x.told(3), 0);
    checks.equal("not watched", x.told(4), 1);
    checks.equal("put nowhere", x.heap(0, -1, 0, 5), 0);
    checks.equal("watched no more", x.told(4), 0);
    checks.equal("known stays", x.told(2), 1);
    checks.equal("the night stays", x.told(5), 1);
    checks.equal("known stays when put back", x.heap(0, 3, 2, 5), NONE);
    checks.equal("known still", x.told(2), 1);
  }

  private static void promise2HeapRefused() {
    TurfHeaps x = new TurfHeaps();
    x.heap(0, 7, 3, 4);
    x.heap(1, 8, 5, 6);
    long[] before = Checks.stateOf(x);
    checks.equal("heap 6", x.heap(6, 0, 0, 0), UNKNOWN);
    checks.equal("heap -1", x.heap(-1, 0, 0, 0), UNKNOWN);
    checks.equal("cell 25", x.heap(0, 25, 0, 0), UNKNOWN);
    checks.equal("cell -2", x.heap(0, -2, 0, 0), UNKNOWN);
    checks.equal("cell far off", x.heap(0, Integer.MAX_VALUE, 0, 0), UNKNOWN);
    checks.equal("heat 10", x.heap(0, 0, 10, 0), OUTSIDE);
    checks.equal("heat -1", x.heap(0, 0, -1, 0), OUTSIDE);
    checks.equal("turfs 10", x.heap(0, 0, 0, 10), OUTSIDE);
    checks.equal("turfs -1", x.heap(0, 0, 0, -1), OUTSIDE);
    checks.equal("heat nowhere", x.heap(0, -1, 1, 0), OUTSIDE);
    checks.equal("turfs 10 nowhere", x.heap(0, -1, 0, 10), OUTSIDE);
    checks.equal("another one is there", x.heap(0, 8, 0, 0), STATE);
    checks.equal("unknown before outside", x.heap(6, 0, 10, 0), UNKNOWN);
    checks.equal("unknown cell before outside", x.heap(0, 25, 10, 10), UNKNOWN);
    checks.equal("outside before state", x.heap(0, 8, 10, 0), OUTSIDE);
    checks.unchanged("heap refused", x, before);
    x.heap(1, 0, 0, 0);
    checks.equal("another one is there, on the first cell", x.heap(0, 0, 3, 4), STATE);
    x.heap(1, 24, 0, 0);
    checks.equal("another one is there, on the last cell", x.heap(5, 24, 3, 4), STATE);
  }

  private static void promise3Burners() {
    TurfHeaps x = new TurfHeaps();
    checks.equal("burners at first", x.burners(6), 2);
    checks.equal("burners told", x.told(1), 6);
    checks.equal("none", x.burners(0), 6);
    checks.equal("none told", x.told(1), 0);
    checks.equal("two", x.burners(2), 0);
    x.heap(0, 0, 0, 0);
    x.heap(1, 1, 0, 0);
    Checks.tell(x, "A^B^");
    checks.equal("two watch", x.done(), 2);
    checks.equal("as many as watch", x.burners(2), 2);
    checks.equal("more", x.burners(3), 2);
    checks.equal("back to as many as watch", x.burners(2), 3);
  }

  private static void promise3BurnersRefused() {
    TurfHeaps x = new TurfHeaps();
    x.heap(0, 0, 0, 0);
    x.heap(5, 1, 0, 0);
    Checks.tell(x, "A^F^");
    x.done();
    long[] before = Checks.stateOf(x);
    checks.equal("burners 7", x.burners(7), OUTSIDE);
    checks.equal("burners -1", x.burners(-1), OUTSIDE);
    checks.equal("burners far off", x.burners(Integer.MIN_VALUE), OUTSIDE);
    checks.equal("more watch", x.burners(1), STATE);
    checks.equal("more watch than none", x.burners(0), STATE);
    checks.unchanged("burners refused", x, before);
  }

  private static void promise24Told() {
    TurfHeaps x = new TurfHeaps();
    x.heap(0, 0, 9, 2);
    x.heap(2, 12, 1, 9);
    x.heap(4, 24, 0, 7);
    x.burners(5);
    Checks.tell(x, "E^ . .");
    x.done();
    Checks.tell(x, "A+ B");
    x.seen(3, 3);
    x.seen(4, 4);
    int[] first = {3, 5, 1, 4, 16, 2, 2};
    for (int what = 0; what < first.length; what++) {
      checks.equal("told " + what, x.told(what), first[what]);
    }
    int[] cells = {0, NONE, 12, NONE, 24, NONE};
    int[] heats = {9, 0, 0, 0, 0, 0};
    int[] turfs = {2, 5, 9, 5, 7, 5};
    for (int heap = 0; heap < 6; heap++) {
      checks.equal("told cell " + heap, x.told(10 + heap), cells[heap]);
      checks.equal("told heat " + heap, x.told(20 + heap), heats[heap]);
      checks.equal("told turfs " + heap, x.told(30 + heap), turfs[heap]);
    }
  }

  private static void promise24ToldRefused() {
    TurfHeaps x = new TurfHeaps();
    long[] before = Checks.stateOf(x);
    int[] outside = {-1, 7, 8, 9, 16, 19, 26, 29, 36, 39, 40, 45, 100, 110, -10, -20,
        Integer.MAX_VALUE, Integer.MIN_VALUE};
    for (int what : outside) {
      checks.equal("told " + what, x.told(what), OUTSIDE);
    }
    checks.unchanged("told refused", x, before);
  }
}
