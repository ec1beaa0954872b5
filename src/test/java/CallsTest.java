/** "An object is used for at most 512 calls after it has been made": the last of 512 is answered as the first is. */
public final class CallsTest {
  private static final int CALLS = 512;
  private static final int NONE = TurfHeaps.NONE, FULL = TurfHeaps.FULL;
  private static final Checks checks = new Checks();

  public static void main(String[] args) {
    heapsAndBurners();
    signs();
    weeks();
    chains();
    threads();
    games();
    images();
    checks.end("CallsTest");
  }

  private static void heapsAndBurners() {
    checks.about(2, "512 calls of heap()");
    TurfHeaps x = new TurfHeaps();
    for (int i = 0; i < CALLS; i++) {
      checks.equal("call " + i, x.heap(i % 6, i % 25, i % 10, i % 10), i < 6 ? NONE : (i - 6) % 25);
    }
    checks.about(3, "512 calls of burners()");
    x = new TurfHeaps();
    for (int i = 0; i < CALLS; i++) {
      checks.equal("call " + i, x.burners(i % 7), i == 0 ? 2 : (i - 1) % 7);
    }
    checks.about(24, "512 calls of told()");
    x = new TurfHeaps();
    for (int i = 0; i < CALLS; i++) {
      checks.equal("call " + i, x.told(30 + i % 6), 5);
    }
  }

  private static void signs() {
    checks.about(4, "512 calls of say()");
    TurfHeaps x = new TurfHeaps();
    for (int i = 0; i < CALLS; i++) {
      checks.equal("call " + i, x.say(33 + i % 94), i < 60 ? i + 1 : FULL);
    }
    checks.about(5, "512 calls of say() and wipe()");
    x = new TurfHeaps();
    for (int i = 0; i < CALLS; i++) {
      checks.equal("call " + i, i % 4 < 3 ? x.say('A') : x.wipe(), i % 4 < 3 ? i % 4 + 1 : 3);
    }
    checks.about(6, "512 calls of say() and fault()");
    x = new TurfHeaps();
    x.say('A');
    for (int i = 1; i < CALLS; i++) {
      checks.equal("call " + i, x.fault(), 1);
    }
  }

  private static void weeks() {
    checks.about(8, "512 calls of say() and done()");
    TurfHeaps x = new TurfHeaps();
    x.heap(0, 0, 9, 0);
    for (int i = 1; i < CALLS; i++) {
      int part = i % 3;
      int due = part == 0 ? 1 : part;
      checks.equal("call " + i, part == 1 ? x.say('A') : part == 2 ? x.say('^') : x.done(), due);
    }
    checks.about(8, "99 nights by texts of one, and no more");
    x = new TurfHeaps();
    for (int night = 1; night <= 99; night++) {
      x.say('.');
      checks.equal("night " + night, x.done(), 1);
      checks.equal("told " + night, x.told(5), night);
    }
    x.say('.');
    checks.equal("one more", x.done(), TurfHeaps.NO);
    checks.about(10, "512 calls of judge(), behind() and then()");
    x = new TurfHeaps();
    x.heap(0, 0, 9, 0);
    x.say('.');
    for (int i = 2; i + 2 < CALLS; i += 3) {
      checks.equal("judge " + i, x.judge(0), NONE);
      checks.equal("behind " + i, x.behind(0, 0), 9);
      checks.equal("then " + i, x.then(3), 1);
    }
  }

  private static void chains() {
    checks.about(12, "512 calls of chain() and cover()");
    TurfHeaps x = new TurfHeaps();
    x.heap(0, 0, 1, 0);
    x.heap(1, 2, 1, 0);
    x.heap(2, 4, 1, 0);
    for (int i = 3; i + 1 < CALLS; i += 2) {
      checks.equal("chain " + i, x.chain(0), 7);
      checks.equal("cover " + i, x.cover(0, 2, 1), 2);
    }
    checks.about(14, "512 calls of due() and nods()");
    x = new TurfHeaps();
    for (int i = 0; i + 1 < CALLS; i += 2) {
      checks.equal("due " + i, x.due(12345678, 3628211510060301L, 8, 1), 31);
      checks.equal("nods " + i, x.nods(9, 9, 9, 9, 9999, 0), 4995);
    }
  }

  private static void threads() {
    checks.about(15, "512 calls of seen()");
    TurfHeaps x = new TurfHeaps();
    for (int i = 0; i < CALLS; i++) {
      checks.equal("call " + i, x.seen(i % 21, i % 7), i < 8 ? i + 1 : FULL);
    }
    checks.about(16, "512 calls of seen() and forget()");
    x = new TurfHeaps();
    for (int i = 0; i < CALLS; i++) {
      checks.equal("call " + i, i % 4 < 3 ? x.seen(i % 21, i % 7) : x.forget(), i % 4 < 3 ? i % 4 + 1 : 3);
    }
    checks.about(18, "512 calls of matter() and ask()");
    x = new TurfHeaps();
    x.seen(0, 6);
    for (int i = 1; i + 2 < CALLS; i += 3) {
      checks.equal("matter(-1) " + i, x.matter(-1), 7);
      checks.equal("matter(6) " + i, x.matter(6), 66);
      checks.equal("ask(0) " + i, x.ask(0), 1);
    }
  }

  private static void games() {
    checks.about(19, "512 calls of takes()");
    TurfHeaps x = new TurfHeaps();
    for (int i = 0; i < CALLS; i++) {
      checks.equal("call " + i, x.takes(i % 61, 0), i % 61 == 0 ? 0 : 1);
    }
    checks.about(20, "512 calls of lean()");
    x = new TurfHeaps();
    for (int i = 0; i < CALLS; i++) {
      checks.equal("call " + i, x.lean(2, 5, i / 2 % 2, i % 2), new long[] {9, 16, 4, 1}[i % 4]);
    }
    checks.about(21, "512 calls of year()");
    x = new TurfHeaps();
    x.heap(0, 0, 3, 5);
    x.heap(1, 2, 9, 2);
    x.heap(2, 12, 4, 2);
    for (int i = 3; i < CALLS; i++) {
      checks.equal("call " + i, x.year(77, 99, i % 3), new int[] {3, 0, 27}[i % 3]);
    }
  }

  private static void images() {
    checks.about(23, "512 calls of heap(), image() and restore()");
    TurfHeaps x = new TurfHeaps();
    for (int i = 0; i + 3 < CALLS; i += 4) {
      checks.equal("heap " + i, x.heap(0, i % 25, 1, 1), i == 0 ? NONE : 24 - (i - 4) % 25);
      checks.equal("image " + i, x.image(i / 4 % 2), 1);
      checks.equal("restore " + i, x.restore(i / 4 % 2), 1);
      checks.equal("heap again " + i, x.heap(0, 24 - i % 25, 2, 2), i % 25);
    }
  }
}
