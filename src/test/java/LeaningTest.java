import java.math.BigInteger;

/** Promises 19 and 20: takes, lean. */
public final class LeaningTest {
  private static final int NONE = TurfHeaps.NONE, OUTSIDE = TurfHeaps.OUTSIDE;
  private static final long REFUSED = TurfHeaps.LOST + OUTSIDE;
  private static final Checks checks = new Checks();

  /** What is taken first, by the number of turfs: reckoned by another program. */
  private static final int[] TAKEN = {
    NONE, 100, 200, 101, 201, 102, 101, 103, 203, 104, 101, 105, 205, 102, 202, 101, 201, 102, 101, 109, 209,
    104, 101, 105, 205, 104, 204, 101, 201, 102, 104, 109, 209, 116, 101, 105, 205, 104, 204, 101, 201, 102,
    101, 103, 203, 104, 101, 105, 205, 102, 202, 101, 201, 102, 101, 127, 227, 104, 101, 105, 205,
  };

  public static void main(String[] args) {
    promise19Takes();
    promise19EachOrder();
    promise19Refused();
    promise20NotFallen();
    promise20Mean();
    promise20LowestTerms();
    promise20Refused();
    checks.end("LeaningTest");
  }

  private static void promise19Takes() {
    TurfHeaps x = new TurfHeaps();
    for (int n = 0; n <= 60; n++) {
      checks.equal("takes(" + n + ", 0)", x.takes(n, 0), n == 0 ? 0 : 1);
      checks.equal("takes(" + n + ", 1)", x.takes(n, 1), TAKEN[n]);
    }
  }

  /** What was asked before does not matter. */
  private static void promise19EachOrder() {
    for (int n = 0; n <= 60; n += 5) {
      TurfHeaps x = new TurfHeaps();
      checks.equal("takes(" + n + ", 1) first of all", x.takes(n, 1), TAKEN[n]);
      checks.equal("takes(60, 1) then", x.takes(60, 1), TAKEN[60]);
      checks.equal("takes(7, 1) then", x.takes(7, 1), TAKEN[7]);
      checks.equal("takes(0, 1) then", x.takes(0, 1), NONE);
    }
  }

  private static void promise19Refused() {
    TurfHeaps x = new TurfHeaps();
    long[] before = Checks.stateOf(x);
    checks.equal("n 61", x.takes(61, 0), OUTSIDE);
    checks.equal("n -1", x.takes(-1, 1), OUTSIDE);
    checks.equal("n far off", x.takes(Integer.MAX_VALUE, 1), OUTSIDE);
    checks.equal("what 2", x.takes(5, 2), OUTSIDE);
    checks.equal("what -1", x.takes(5, -1), OUTSIDE);
    checks.unchanged("takes refused", x, before);
  }

  private static void fraction(TurfHeaps x, int n, int t, int what, long upper, long lower) {
    String call = "lean(" + n + ", " + t + ", " + what + ", ";
    checks.equal(call + "0)", x.lean(n, t, what, 0), upper);
    checks.equal(call + "1)", x.lean(n, t, what, 1), lower);
  }

  private static void promise20NotFallen() {
    TurfHeaps x = new TurfHeaps();
    fraction(x, 0, 0, 0, 1, 1);
    fraction(x, 8, 0, 0, 1, 1);
    fraction(x, 0, 7, 0, 1, 1);
    fraction(x, 0, 10, 0, 1, 1);
    fraction(x, 1, 10, 0, 0, 1);
    fraction(x, 8, 10, 0, 0, 1);
    fraction(x, 1, 1, 0, 99, 100);
    fraction(x, 1, 6, 0, 16, 25);
    fraction(x, 2, 8, 0, 81, 625);
    fraction(x, 8, 3, 0, 4702525276151521L, 10000000000000000L);
  }

  private static void promise20Mean() {
    TurfHeaps x = new TurfHeaps();
    int[][] means = {{100, 1}, {25, 1}, {100, 9}, {25, 4}, {4, 1}, {25, 9}, {100, 49}, {25, 16}, {100, 81}, {1, 1}};
    for (int t = 1; t <= 10; t++) {
      fraction(x, 0, t, 1, means[t - 1][0], means[t - 1][1]);
      fraction(x, 8, t, 1, means[t - 1][0], means[t - 1][1]);
    }
  }

  private static void promise20LowestTerms() {
    TurfHeaps x = new TurfHeaps();
    for (int t = 0; t <= 10; t++) {
      for (int n = 0; n <= 8; n++) {
        BigInteger upper = BigInteger.valueOf(100 - t * t).pow(n);
        BigInteger lower = BigInteger.valueOf(100).pow(n);
        BigInteger divisor = upper.gcd(lower);
        fraction(x, n, t, 0, upper.divide(divisor).longValueExact(), lower.divide(divisor).longValueExact());
      }
    }
  }

  private static void promise20Refused() {
    TurfHeaps x = new TurfHeaps();
    long[] before = Checks.stateOf(x);
    checks.equal("REFUSED", REFUSED, -1000000000000000002L);
    checks.equal("n 9", x.lean(9, 1, 0, 0), REFUSED);
    checks.equal("n -1", x.lean(-1, 1, 0, 0), REFUSED);
    checks.equal("n 9, for the mean", x.lean(9, 1, 1, 0), REFUSED);
    checks.equal("n -1, for the mean", x.lean(-1, 1, 1, 1), REFUSED);
    checks.equal("t 11", x.lean(0, 11, 0, 0), REFUSED);
    checks.equal("t -1", x.lean(0, -1, 0, 1), REFUSED);
    checks.equal("t 11, for the mean", x.lean(0, 11, 1, 0), REFUSED);
    checks.equal("t 0, for the mean", x.lean(0, 0, 1, 0), REFUSED);
    checks.equal("t 0, for the mean's lower number", x.lean(5, 0, 1, 1), REFUSED);
    checks.equal("what 2", x.lean(0, 1, 2, 0), REFUSED);
    checks.equal("what -1", x.lean(0, 1, -1, 0), REFUSED);
    checks.equal("part 2", x.lean(0, 1, 0, 2), REFUSED);
    checks.equal("part -1", x.lean(0, 1, 1, -1), REFUSED);
    checks.equal("far off", x.lean(Integer.MAX_VALUE, Integer.MIN_VALUE, 0, 0), REFUSED);
    checks.unchanged("lean refused", x, before);
  }
}
