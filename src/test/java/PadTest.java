/** Promises 4 to 6: say, wipe, fault. */
public final class PadTest {
  private static final int NONE = TurfHeaps.NONE, OUTSIDE = TurfHeaps.OUTSIDE, FULL = TurfHeaps.FULL;
  private static final Checks checks = new Checks();

  public static void main(String[] args) {
    promise4Say();
    promise4SayRefused();
    promise5Wipe();
    promise6Fault();
    promise6EverySign();
    checks.end("PadTest");
  }

  private static void promise4Say() {
    TurfHeaps x = new TurfHeaps();
    checks.equal("the least sign", x.say(33), 1);
    checks.equal("the greatest sign", x.say(126), 2);
    checks.equal("one between", x.say('A'), 3);
    checks.equal("told", x.told(0), 3);
  }

  private static void promise4SayRefused() {
    TurfHeaps x = new TurfHeaps();
    checks.equal("sign 32", x.say(32), OUTSIDE);
    checks.equal("sign 127", x.say(127), OUTSIDE);
    checks.equal("sign -1", x.say(-1), OUTSIDE);
    checks.equal("sign far off", x.say(Integer.MAX_VALUE), OUTSIDE);
    checks.equal("sign that is one by 16 bits", x.say(65536 + 65), OUTSIDE);
    checks.equal("nothing said", x.told(0), 0);
    for (int i = 1; i <= 59; i++) {
      checks.equal("sign " + i, x.say('.'), i);
    }
    checks.equal("the last sign", x.say('A'), 60);
    long[] before = Checks.stateOf(x);
    checks.equal("one more", x.say('a'), FULL);
    checks.equal("outside before full", x.say(127), OUTSIDE);
    checks.unchanged("say refused", x, before);
    checks.equal("the sixty stand", x.fault(), 60);
  }

  private static void promise5Wipe() {
    TurfHeaps x = new TurfHeaps();
    checks.equal("nothing to wipe", x.wipe(), 0);
    Checks.say(x, "A+B");
    checks.equal("three wiped", x.wipe(), 3);
    checks.equal("empty", x.told(0), 0);
    checks.equal("empty again", x.wipe(), 0);
    checks.equal("said anew", x.say('.'), 1);
    checks.equal("nothing of before stands", x.fault(), NONE);
    for (int i = 2; i <= 60; i++) {
      x.say('.');
    }
    checks.equal("full", x.say('.'), FULL);
    checks.equal("sixty wiped", x.wipe(), 60);
    checks.equal("room again", x.say('.'), 1);
  }

  private static void faultOf(String text, int due) {
    TurfHeaps x = new TurfHeaps();
    Checks.say(x, text);
    checks.equal("fault of '" + text + "'", x.fault(), due);
    checks.equal("the pad stays", x.told(0), text.length());
  }

  private static void promise6Fault() {
    faultOf("", NONE);
    faultOf(".", NONE);
    faultOf("Aa", NONE);
    faultOf("Fy", NONE);
    faultOf("A+B-C*D^.Ea", NONE);
    faultOf("A", 1);
    faultOf("A+F", 3);
    faultOf("...A", 4);
    faultOf("G+", 0);
    faultOf("Az", 1);
    faultOf("A.", 1);
    faultOf("AA+", 1);
    faultOf("a", 0);
    faultOf("+", 0);
    faultOf("A++", 2);
    faultOf("A+.B!C", 4);
    faultOf("!!", 0);
    faultOf("A!A", 1);
  }

  /** Each sign in each of the two places where an act can be. */
  private static void promise6EverySign() {
    TurfHeaps x = new TurfHeaps();
    for (int sign = 33; sign <= 126; sign++) {
      x.wipe();
      x.say(sign);
      int first = sign == '.' ? NONE : "ABCDEF".indexOf(sign) >= 0 ? 1 : 0;
      checks.equal("fault of sign " + sign + " alone", x.fault(), first);
    }
    x = new TurfHeaps();
    for (int sign = 33; sign <= 126; sign++) {
      x.wipe();
      x.say('C');
      x.say(sign);
      int second = "abcdefghijklmnopqrstuvwxy+-*^".indexOf(sign) >= 0 ? NONE : 1;
      checks.equal("fault of C and sign " + sign, x.fault(), second);
    }
  }
}
