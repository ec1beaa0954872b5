/** Each edge that the document names for the pad: promises 4 to 6. */
public final class EdgePadTest {
  private static final int NONE = TurfHeaps.NONE, OUTSIDE = TurfHeaps.OUTSIDE, FULL = TurfHeaps.FULL;
  private static final Checks checks = new Checks();

  public static void main(String[] args) {
    promise4LeastCode();
    promise4GreatestCode();
    promise4EachCodeBetween();
    promise4SixtySigns();
    promise4OutsideBeforeFull();
    promise4OutsideChangesNothing();
    promise4FullChangesNothing();
    promise5HowManyThereWere();
    promise5SignsGo();
    promise5NothingElseGoes();
    promise6EmptyPad();
    promise6FromZeroOn();
    promise6LastPlace();
    promise6FirstSignThatCanNotStand();
    promise6IfMoreMustCome();
    promise6HeapLetters();
    promise6CellLettersAndDeeds();
    promise6WhatCanBeIsNoMatter();
    promise6ChangesNothing();
    checks.end("EdgePadTest");
  }

  private static TurfHeaps full(String lastSign) {
    TurfHeaps x = new TurfHeaps();
    Checks.say(x, ".".repeat(59) + lastSign);
    return x;
  }

  private static void promise4LeastCode() {
    checks.about(4, "codes 33 to 126: the least");
    TurfHeaps x = new TurfHeaps();
    checks.equal("say(32)", x.say(32), OUTSIDE);
    checks.equal("say(33)", x.say(33), 1);
    int[] less = {31, 0, -1, -33, Integer.MIN_VALUE};
    for (int sign : less) {
      checks.equal("say(" + sign + ")", x.say(sign), OUTSIDE);
    }
  }

  private static void promise4GreatestCode() {
    checks.about(4, "codes 33 to 126: the greatest");
    TurfHeaps x = new TurfHeaps();
    checks.equal("say(127)", x.say(127), OUTSIDE);
    checks.equal("say(126)", x.say(126), 1);
    int[] more = {128, 256 + 46, 65536 + 46, Integer.MAX_VALUE};
    for (int sign : more) {
      checks.equal("say(" + sign + ")", x.say(sign), OUTSIDE);
    }
  }

  private static void promise4EachCodeBetween() {
    checks.about(4, "A sign more: how many");
    TurfHeaps x = new TurfHeaps();
    for (int sign = 33; sign <= 126; sign++) {
      if (sign == 80) {
        checks.equal("wipe()", x.wipe(), 47);
      }
      checks.equal("say(" + sign + ")", x.say(sign), sign < 80 ? sign - 32 : sign - 79);
    }
  }

  private static void promise4SixtySigns() {
    checks.about(4, "60 SIGNS at most; FULL");
    TurfHeaps x = new TurfHeaps();
    for (int i = 1; i <= 60; i++) {
      checks.equal("sign " + i, x.say('.'), i);
    }
    checks.equal("sign 61", x.say('.'), FULL);
    checks.equal("and again", x.say('A'), FULL);
    checks.equal("told(0)", x.told(0), 60);
  }

  private static void promise4OutsideBeforeFull() {
    checks.about(4, "OUTSIDE before FULL");
    TurfHeaps x = full(".");
    checks.equal("say(32)", x.say(32), OUTSIDE);
    checks.equal("say(127)", x.say(127), OUTSIDE);
    checks.equal("say(126)", x.say(126), FULL);
    checks.equal("say(33)", x.say(33), FULL);
  }

  private static void promise4OutsideChangesNothing() {
    checks.about(4, "They change nothing: OUTSIDE");
    TurfHeaps x = new TurfHeaps();
    x.say('A');
    checks.equal("say(127)", x.say(127), OUTSIDE);
    checks.equal("say(32)", x.say(32), OUTSIDE);
    checks.equal("fault", x.fault(), 1);
    checks.equal("the next sign is the second", x.say('a'), 2);
    checks.equal("no fault", x.fault(), NONE);
    checks.equal("done", x.done(), 1);
  }

  private static void promise4FullChangesNothing() {
    checks.about(4, "They change nothing: FULL");
    TurfHeaps x = full("A");
    checks.equal("say('a')", x.say('a'), FULL);
    checks.equal("the last sign lacks its deed still", x.fault(), 60);
    TurfHeaps y = full(".");
    checks.equal("say('!')", y.say('!'), FULL);
    checks.equal("no fault", y.fault(), NONE);
    checks.equal("sixty acts", y.done(), 60);
  }

  private static void promise5HowManyThereWere() {
    checks.about(5, "how many there were");
    TurfHeaps x = new TurfHeaps();
    checks.equal("none", x.wipe(), 0);
    x.say('!');
    checks.equal("one", x.wipe(), 1);
    checks.equal("none again", x.wipe(), 0);
    Checks.say(x, ".".repeat(60));
    x.say('.');
    checks.equal("sixty", x.wipe(), 60);
    Checks.say(x, "..");
    x.done();
    checks.equal("none behind done()", x.wipe(), 0);
  }

  private static void promise5SignsGo() {
    checks.about(5, "Signs go");
    TurfHeaps x = full("!");
    x.wipe();
    checks.equal("told(0)", x.told(0), 0);
    checks.equal("fault of the empty pad", x.fault(), NONE);
    checks.equal("judge of the empty pad", x.judge(0), NONE);
    checks.equal("room for a first sign", x.say('.'), 1);
    checks.equal("then(4): one night alone", x.then(4), 1);
  }

  private static void promise5NothingElseGoes() {
    checks.about(5, "Signs go: nothing else does");
    TurfHeaps x = new TurfHeaps();
    x.burners(3);
    x.heap(0, 0, 9, 0);
    checks.does(x, "A^.A^.", 4);
    x.seen(2, 2);
    x.image(1);
    long[] before = Checks.stateOf(x);
    Checks.say(x, "A+B");
    x.wipe();
    checks.unchanged("say and wipe", x, before);
    checks.equal("the image is kept", x.restore(1), 1);
  }

  private static void faultOf(String text, int due) {
    TurfHeaps x = new TurfHeaps();
    Checks.say(x, text);
    checks.equal("fault of '" + text + "'", x.fault(), due);
  }

  private static void promise6EmptyPad() {
    checks.about(6, "an empty PAD has none");
    faultOf("", NONE);
    TurfHeaps x = new TurfHeaps();
    Checks.say(x, "A");
    x.wipe();
    checks.equal("emptied by wipe()", x.fault(), NONE);
    Checks.say(x, ".");
    x.done();
    checks.equal("emptied by done()", x.fault(), NONE);
  }

  private static void promise6FromZeroOn() {
    checks.about(6, "the place (from 0 on)");
    faultOf("!", 0);
    faultOf("+A", 0);
    faultOf("a", 0);
    faultOf("A!", 1);
    faultOf("A+!", 2);
    faultOf(".!", 1);
  }

  private static void promise6LastPlace() {
    checks.about(6, "the place: of the last of 60 signs");
    checks.equal("a sign that can not stand", full("+").fault(), 59);
    checks.equal("one that can", full(".").fault(), NONE);
    faultOf("A+".repeat(29) + "A.", 59);
    faultOf("A+".repeat(29) + "AA", 59);
    faultOf("A+".repeat(30), NONE);
    faultOf("." + "A+".repeat(29) + "+", 59);
  }

  private static void promise6FirstSignThatCanNotStand() {
    checks.about(6, "the first sign that can not stand there");
    faultOf("A+!!", 2);
    faultOf("A!+B", 1);
    faultOf("AA", 1);
    faultOf("AAA+", 1);
    faultOf("A.A+", 1);
    faultOf("A++", 2);
    faultOf("a.", 0);
    faultOf("..A..", 3);
    faultOf("A*A^Aa.ab", 7);
  }

  private static void promise6IfMoreMustCome() {
    checks.about(6, "the number of signs, if more must come");
    faultOf("A", 1);
    faultOf(".F", 2);
    faultOf("A+B-C", 5);
    checks.equal("the last of 60", full("A").fault(), 60);
    faultOf("!A", 0);
  }

  private static void promise6HeapLetters() {
    checks.about(6, "HEAPS 0 to 5 (A to F): a HEAP's letter, or a night, in front");
    TurfHeaps x = new TurfHeaps();
    for (int sign = 33; sign <= 126; sign++) {
      x.wipe();
      x.say('.');
      x.say(sign);
      int due = sign == '.' ? NONE : sign >= 'A' && sign <= 'F' ? 2 : 1;
      checks.equal("fault of . and sign " + sign, x.fault(), due);
    }
  }

  private static void promise6CellLettersAndDeeds() {
    checks.about(6, "CELLS 0 to 24 (a to y), +, -, *, ^ behind a HEAP's letter");
    for (char heap = 'A'; heap <= 'F'; heap++) {
      TurfHeaps x = new TurfHeaps();
      for (int sign = 33; sign <= 126; sign++) {
        x.wipe();
        x.say(heap);
        x.say(sign);
        boolean canStand = sign >= 'a' && sign <= 'y' || sign == 43 || sign == 45 || sign == 42 || sign == 94;
        checks.equal("fault of " + heap + " and sign " + sign, x.fault(), canStand ? NONE : 1);
      }
    }
  }

  private static void promise6WhatCanBeIsNoMatter() {
    checks.about(6, "THE FAULT is of signs alone, not of what can be");
    TurfHeaps x = new TurfHeaps();
    Checks.say(x, "A+A-A*A^");
    checks.equal("nowhere, and no fault", x.fault(), NONE);
    checks.equal("but it can not be", x.judge(0), 0);
  }

  private static void promise6ChangesNothing() {
    checks.about(6, "THE FAULT; NONE: asked, it changes nothing");
    TurfHeaps x = new TurfHeaps();
    x.heap(0, 0, 1, 5);
    Checks.say(x, ".A+A");
    long[] before = Checks.stateOf(x);
    checks.equal("fault", x.fault(), 4);
    checks.equal("fault again", x.fault(), 4);
    checks.unchanged("fault", x, before);
  }
}
