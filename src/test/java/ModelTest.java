/** Long runs of calls, drawn by fixed numbers, of the class and of the plain model: each answer must be the same. */
public final class ModelTest {
  private static final int RUNS = 600;
  /** So many calls an object is used for, by the document; what later ones answer is free. */
  private static final int CALLS = 512;
  private static final int[] ODD = {-1, -2, -6, 25, 26, 61, 99, 100, 127, 10000, Integer.MAX_VALUE, Integer.MIN_VALUE};
  private static final Checks checks = new Checks();

  private static long drawn;
  private static TurfHeaps x;
  private static Model model;
  private static int run;
  private static int calls;

  public static void main(String[] args) {
    for (run = 0; run < RUNS; run++) {
      drawn = run * 7919L + 1;
      x = new TurfHeaps();
      model = new Model();
      calls = 0;
      for (int i = 0; i < 6 && run % 3 > 0; i++) {
        int turfs = run % 3 == 1 ? draw(3) : draw(10);
        int heat = draw(10);
        int cell = draw(25);
        same("heap", x.heap(i, cell, heat, turfs), model.heap(i, cell, heat, turfs));
      }
      while (calls < CALLS) {
        call(draw(26));
      }
    }
    checks.end("ModelTest");
  }

  private static int draw(int many) {
    drawn = drawn * 6364136223846793005L + 1442695040888963407L;
    return (int) ((drawn >>> 33) % many);
  }

  /** Mostly a number from least to most, at times one beside them, or far off. */
  private static int number(int least, int most) {
    int kind = draw(40);
    if (kind == 0) {
      return ODD[draw(ODD.length)];
    }
    if (kind == 1) {
      return draw(2) == 0 ? least - 1 : most + 1;
    }
    return least + draw(most - least + 1);
  }

  private static void same(String call, long got, long want) {
    calls++;
    if (calls > CALLS) {
      return;
    }
    checks.equal("run " + run + ", call " + calls + ": " + call, got, want);
  }

  private static void call(int kind) {
    if (kind < 9) {
      callForHeaps(kind);
    } else if (kind < 15) {
      callForChains(kind);
    } else if (kind < 24) {
      callForTheRest(kind);
    } else {
      tellWeeks();
    }
  }

  private static void callForHeaps(int kind) {
    int a = number(0, 5);
    int b = number(-1, 24);
    int c = number(0, 9);
    int d = number(0, 9);
    int v = number(0, 6);
    int what = number(0, 2);
    int sign = number(33, 126);
    switch (kind) {
      case 0 -> same("heap " + a + " " + b + " " + c + " " + d, x.heap(a, b, c, d), model.heap(a, b, c, d));
      case 1 -> same("burners " + v, x.burners(v), model.burners(v));
      case 2 -> {
        if (draw(4) == 0) {
          same("say " + sign, x.say(sign), model.say(sign));
        } else {
          same("wipe", x.wipe(), model.wipe());
        }
      }
      case 3 -> same("fault", x.fault(), model.fault());
      case 4 -> same("judge " + what, x.judge(what), model.judge(what));
      case 5 -> same("done", x.done(), model.done());
      case 6, 7 -> same("behind " + a + " " + what, x.behind(a, what), model.behind(a, what));
      default -> same("then " + v, x.then(v), model.then(v));
    }
  }

  private static void callForChains(int kind) {
    int a = number(0, 5);
    int b = number(0, 5);
    int what = number(0, 1);
    switch (kind) {
      case 9 -> same("chain " + a, x.chain(a), model.chain(a));
      case 10, 11, 12 -> same("cover " + a + " " + b + " " + what, x.cover(a, b, what), model.cover(a, b, what));
      case 13 -> callDue(what);
      default -> {
        int[] r = {number(1, 9), number(1, 9), number(1, 9), number(1, 9), number(0, 9999)};
        same("nods " + java.util.Arrays.toString(r) + " " + what, x.nods(r[0], r[1], r[2], r[3], r[4], what),
            model.nods(r[0], r[1], r[2], r[3], r[4], what));
      }
    }
  }

  private static void callDue(int what) {
    int n = number(1, 8);
    int digits = draw(20) == 0 ? draw(10) : n;
    int nights = draw(50) == 0 ? ODD[draw(ODD.length)] : 0;
    long days = draw(50) == 0 ? Long.MIN_VALUE + draw(1000) : draw(50) == 0 ? Long.MAX_VALUE : 0;
    for (int i = 0; i < digits && i < 9; i++) {
      nights = nights * 10 + (draw(60) == 0 ? 0 : 1 + draw(9));
      days = days * 100 + draw(40);
    }
    same("due " + nights + " " + days + " " + n + " " + what, x.due(nights, days, n, what),
        model.due(nights, days, n, what));
  }

  private static void callForTheRest(int kind) {
    int n = number(0, 8);
    int t = number(0, 10);
    int what = number(0, 1);
    int part = number(0, 1);
    switch (kind) {
      case 15 -> {
        int night = number(0, 20);
        int m = draw(7);
        int v = draw(3) == 0 ? number(0, 6) : (run + (run / 7) * night % 7 + 7) % 7;
        same("seen " + night + " " + v + " " + m, x.seen(night, v), model.seen(night, v));
      }
      case 16 -> {
        if (draw(6) == 0) {
          same("forget", x.forget(), model.forget());
        } else {
          int i = number(-2, 49);
          same("matter -1", x.matter(-1), model.matter(-1));
          same("matter " + i, x.matter(i), model.matter(i));
          same("matter " + n, x.matter(n), model.matter(n));
        }
      }
      case 17 -> same("ask " + what, x.ask(what), model.ask(what));
      case 18 -> {
        int row = draw(25);
        int side = draw(2);
        same("takes " + row + " " + side, x.takes(row, side), Model.takes(row, side));
      }
      case 19 -> same("lean " + n + " " + t + " " + what + " " + part, x.lean(n, t, what, part),
          Model.lean(n, t, what, part));
      case 20 -> {
        int seed = number(0, 9999);
        int m = number(1, 99);
        int side = number(0, 2);
        same("year " + seed + " " + m + " " + side, x.year(seed, m, side), model.year(seed, m, side));
      }
      case 21 -> same("image " + what, x.image(what), model.image(what));
      case 22 -> same("restore " + what, x.restore(what), model.restore(what));
      default -> {
        int asked = number(0, 40);
        same("told " + asked, x.told(asked), model.told(asked));
      }
    }
  }

  /** A text of acts, most of which can be, and all that can be asked of it. */
  private static void tellWeeks() {
    if (draw(3) > 0) {
      same("wipe", x.wipe(), model.wipe());
    }
    int acts = draw(4) == 0 ? draw(31) : draw(8);
    for (int i = 0; i < acts; i++) {
      if (draw(3) == 0) {
        sayBoth('.');
      } else {
        sayBoth('A' + draw(6));
        int deed = draw(12);
        sayBoth(deed < 4 ? "+-*^".charAt(deed) : deed < 7 ? '*' : deed < 9 ? '^' : 'a' + draw(25));
      }
      if (draw(3) > 0 && model.judge(0) >= 0) {
        same("wipe", x.wipe(), model.wipe());
      }
    }
    if (draw(40) == 0) {
      sayBoth(number(33, 126));
    }
    same("fault", x.fault(), model.fault());
    same("judge 0", x.judge(0), model.judge(0));
    same("judge 1", x.judge(1), model.judge(1));
    for (int what = 0; what <= 6; what++) {
      same("then " + what, x.then(what), model.then(what));
    }
    int heap = draw(6);
    for (int what = 0; what <= 2; what++) {
      same("behind " + heap + " " + what, x.behind(heap, what), model.behind(heap, what));
    }
    if (draw(2) == 0) {
      same("done", x.done(), model.done());
      for (int what = 0; what < 36; what++) {
        same("told " + what, x.told(what), model.told(what));
      }
    }
  }

  private static void sayBoth(int sign) {
    same("say " + sign, x.say(sign), model.say(sign));
  }
}
