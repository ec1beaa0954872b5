import java.math.BigInteger;
import java.util.ArrayList;
import java.util.Arrays;
import java.util.HashMap;
import java.util.List;
import java.util.Map;
import java.util.regex.Matcher;
import java.util.regex.Pattern;

/** The document once more, written for plainness alone and in other ways than the class, to compare with it. */
final class Model {
  static final int NONE = -6, UNKNOWN = -1, OUTSIDE = -2, STATE = -3, FULL = -4, NO = -5;

  /** One heap; row -1 is nowhere. */
  private static final class Heap implements Cloneable {
    int row = -1, column, heat, turfs = 5;
    boolean watched, known, drawn;

    int cell() {
      return row < 0 ? NONE : 5 * row + column;
    }

    void stack(int cell) {
      row = cell < 0 ? -1 : cell / 5;
      column = cell < 0 ? 0 : cell % 5;
    }

    boolean isNear(Heap other) {
      return this != other && row >= 0 && other.row >= 0
          && Math.abs(row - other.row) + Math.abs(column - other.column) <= 2;
    }

    Heap copy() {
      Heap copy = new Heap();
      copy.row = row;
      copy.column = column;
      copy.heat = heat;
      copy.turfs = turfs;
      copy.watched = watched;
      copy.known = known;
      copy.drawn = drawn;
      return copy;
    }
  }

  /** Heaps, burners, the night and the sights. */
  private static final class World {
    final List<Heap> heaps = new ArrayList<>();
    final List<int[]> sights = new ArrayList<>();
    int burners = 2, night;

    World copy() {
      World copy = new World();
      for (Heap heap : heaps) {
        copy.heaps.add(heap.copy());
      }
      copy.sights.addAll(sights);
      copy.burners = burners;
      copy.night = night;
      return copy;
    }

    long watching() {
      return heaps.stream().filter(heap -> heap.watched).count();
    }

    int why(String act) {
      if (act.equals(".")) {
        return night == 99 ? 7 : 0;
      }
      Heap heap = heaps.get(act.charAt(0) - 'A');
      char deed = act.charAt(1);
      boolean isCell = Character.isLetter(deed);
      if (!isCell && heap.row < 0) {
        return 1;
      }
      if (isCell && heaps.stream().anyMatch(other -> other != heap && other.cell() == deed - 'a')) {
        return 2;
      }
      if ((isCell || deed == '*') && heap.heat > 0) {
        return 3;
      }
      if (deed == '*' && heap.drawn) {
        return 4;
      }
      if (deed == '+' && heap.turfs == 9 || deed == '-' && heap.turfs == 0) {
        return 5;
      }
      return deed == '^' && !heap.watched && watching() >= burners ? 6 : 0;
    }

    List<Integer> act(String act) {
      if (act.equals(".")) {
        return night();
      }
      Heap heap = heaps.get(act.charAt(0) - 'A');
      switch (act.charAt(1)) {
        case '+' -> heap.turfs++;
        case '-' -> heap.turfs--;
        case '*' -> heap.heat = 3;
        case '^' -> heap.watched = !heap.watched;
        default -> {
          heap.stack(act.charAt(1) - 'a');
          heap.drawn = false;
        }
      }
      return new ArrayList<>();
    }

    List<Integer> night() {
      night++;
      List<Integer> flared = new ArrayList<>();
      for (int i = 0; i < 6; i++) {
        Heap heap = heaps.get(i);
        if (heap.heat == 0) {
          continue;
        }
        heap.heat += 5 - heap.turfs;
        if (heap.heat <= 0) {
          heap.heat = 0;
          heap.drawn = true;
        } else if (heap.heat >= 10 && heap.watched) {
          heap.heat = 5;
        } else if (heap.heat >= 10) {
          heap.heat = 9;
          heap.known = true;
          flared.add(i);
        }
      }
      for (int i : flared) {
        for (Heap heap : heaps) {
          if (heap.heat > 0 && heap.isNear(heaps.get(i)) && heap.turfs > 0) {
            heap.turfs--;
          }
        }
      }
      return flared;
    }
  }

  private World now = new World();
  private String pad = "";
  private final World[] images = new World[2];

  // Of the weeks that were last tried out.
  private World trial;
  private int acts, stopped, why, flares, firstAct, firstHeap;

  Model() {
    for (int i = 0; i < 6; i++) {
      now.heaps.add(new Heap());
    }
  }

  private static boolean in(long number, long least, long most) {
    return least <= number && number <= most;
  }

  int heap(int heap, int cell, int heat, int turfs) {
    if (!in(heap, 0, 5) || !in(cell, -1, 24)) {
      return UNKNOWN;
    }
    if (!in(heat, 0, 9) || !in(turfs, 0, 9) || cell == -1 && heat > 0) {
      return OUTSIDE;
    }
    Heap it = now.heaps.get(heap);
    for (Heap other : now.heaps) {
      if (other != it && cell >= 0 && other.cell() == cell) {
        return STATE;
      }
    }
    int was = it.cell();
    it.stack(cell);
    it.heat = heat;
    it.turfs = turfs;
    it.drawn = false;
    it.watched = false;
    return was;
  }

  int burners(int v) {
    if (!in(v, 0, 6)) {
      return OUTSIDE;
    }
    if (now.watching() > v) {
      return STATE;
    }
    int was = now.burners;
    now.burners = v;
    return was;
  }

  int say(int sign) {
    if (!in(sign, 33, 126)) {
      return OUTSIDE;
    }
    if (pad.length() == 60) {
      return FULL;
    }
    pad += (char) sign;
    return pad.length();
  }

  int wipe() {
    int was = pad.length();
    pad = "";
    return was;
  }

  int fault() {
    Matcher matcher = Pattern.compile("(?:\\.|[A-F][a-y+*^-])*+").matcher(pad);
    int end = matcher.lookingAt() ? matcher.end() : 0;
    if (end == pad.length()) {
      return NONE;
    }
    return in(pad.charAt(end), 'A', 'F') ? end + 1 : end;
  }

  private boolean tryOut() {
    trial = now.copy();
    acts = flares = 0;
    stopped = why = firstAct = firstHeap = NONE;
    Matcher matcher = Pattern.compile("\\.|[A-F].").matcher(pad);
    while (matcher.find()) {
      int reason = trial.why(matcher.group());
      if (reason != 0) {
        stopped = acts;
        why = reason;
        return false;
      }
      List<Integer> flared = trial.act(matcher.group());
      if (!flared.isEmpty() && firstAct == NONE) {
        firstAct = acts;
        firstHeap = flared.get(0);
      }
      flares += flared.size();
      acts++;
    }
    return true;
  }

  int judge(int what) {
    if (!in(what, 0, 1)) {
      return OUTSIDE;
    }
    if (fault() != NONE) {
      return NO;
    }
    tryOut();
    return what == 0 ? stopped : why;
  }

  int done() {
    if (fault() != NONE || !tryOut()) {
      return NO;
    }
    now = trial;
    pad = "";
    return acts;
  }

  int behind(int heap, int what) {
    if (!in(heap, 0, 5)) {
      return UNKNOWN;
    }
    if (!in(what, 0, 2)) {
      return OUTSIDE;
    }
    if (fault() != NONE || !tryOut()) {
      return NO;
    }
    Heap it = trial.heaps.get(heap);
    return new int[] {it.heat, it.turfs, it.cell()}[what];
  }

  private static int bits(World world, int which) {
    int bits = 0;
    for (int i = 0; i < 6; i++) {
      Heap heap = world.heaps.get(i);
      if (which == 0 && heap.known || which == 1 && heap.drawn || which == 2 && heap.watched) {
        bits += 1 << i;
      }
    }
    return bits;
  }

  int then(int what) {
    if (!in(what, 0, 6)) {
      return OUTSIDE;
    }
    if (fault() != NONE || !tryOut()) {
      return NO;
    }
    return what < 3 ? bits(trial, what) : new int[] {flares, trial.night, firstAct, firstHeap}[what - 3];
  }

  private static int chainOf(World world, int first) {
    List<Heap> flaring = new ArrayList<>();
    flaring.add(world.heaps.get(first));
    for (int i = 0; i < flaring.size(); i++) {
      for (Heap heap : world.heaps) {
        if (heap.heat > 0 && heap.turfs <= 2 && heap.isNear(flaring.get(i)) && !flaring.contains(heap)) {
          flaring.add(heap);
        }
      }
    }
    int bits = 0;
    for (Heap heap : flaring) {
      bits |= 1 << world.heaps.indexOf(heap);
    }
    return bits;
  }

  int chain(int heap) {
    if (!in(heap, 0, 5)) {
      return UNKNOWN;
    }
    return now.heaps.get(heap).heat == 0 ? STATE : chainOf(now, heap);
  }

  int cover(int heap, int other, int what) {
    if (!in(heap, 0, 5) || !in(other, 0, 5) || heap == other) {
      return UNKNOWN;
    }
    if (!in(what, 0, 1)) {
      return OUTSIDE;
    }
    if (now.heaps.get(heap).heat == 0 || now.heaps.get(other).heat == 0) {
      return STATE;
    }
    for (int size = 0; size <= 4; size++) {
      for (int set = 0; set < 64; set++) {
        if (Integer.bitCount(set) != size || (set >> heap & 1) == 1 || (set >> other & 1) == 1) {
          continue;
        }
        World world = now.copy();
        for (int i = 0; i < 6; i++) {
          if ((set >> i & 1) == 1) {
            world.heaps.get(i).turfs = 9;
          }
        }
        if ((chainOf(world, heap) >> other & 1) == 0) {
          return what == 0 ? size : set;
        }
      }
    }
    return NONE;
  }

  int due(int nights, long days, int n, int what) {
    if (!in(n, 1, 8) || !in(what, 0, 1) || !Integer.toString(nights).matches("[1-9]{" + n + "}")
        || days < 0 || Long.toString(days).length() > 2 * n) {
      return OUTSIDE;
    }
    String row = String.format("%0" + 2 * n + "d", days);
    // The sets that can be drawn in time in one order or another: the last one of each is tried.
    boolean[] canBe = new boolean[1 << n];
    canBe[0] = true;
    int most = 0;
    for (int set = 1; set < 1 << n; set++) {
      int night = 0;
      for (int i = 0; i < n; i++) {
        night += (set >> i & 1) * (Integer.toString(nights).charAt(i) - '0');
      }
      for (int last = 0; last < n; last++) {
        if ((set >> last & 1) == 1 && canBe[set - (1 << last)]
            && night <= Integer.parseInt(row.substring(2 * last, 2 * last + 2))) {
          canBe[set] = true;
        }
      }
      if (canBe[set]) {
        most = Math.max(most, Integer.bitCount(set));
      }
    }
    for (int set = 0; ; set++) {
      if (canBe[set] && Integer.bitCount(set) == most) {
        return what == 0 ? most : set;
      }
    }
  }

  int nods(int a, int b, int c, int d, int n, int what) {
    if (!in(a, 1, 9) || !in(b, 1, 9) || !in(c, 1, 9) || !in(d, 1, 9) || !in(n, 0, 9999) || !in(what, 0, 1)) {
      return OUTSIDE;
    }
    String one = ("a".repeat(a) + "s".repeat(b)).repeat(6000);
    String other = ("a".repeat(c) + "s".repeat(d)).repeat(6000);
    int count = 0;
    int first = NONE;
    for (int night = 0; night < 10000; night++) {
      if (one.charAt(night) == 's' && other.charAt(night) == 's') {
        count += night < n ? 1 : 0;
        first = first == NONE ? night + 1 : first;
      }
    }
    return what == 0 ? count : first;
  }

  int seen(int night, int v) {
    if (!in(night, 0, 20) || !in(v, 0, 6)) {
      return OUTSIDE;
    }
    if (now.sights.size() == 8) {
      return FULL;
    }
    now.sights.add(new int[] {night, v});
    return now.sights.size();
  }

  int forget() {
    int was = now.sights.size();
    now.sights.clear();
    return was;
  }

  private List<Integer> fitting() {
    List<Integer> fitting = new ArrayList<>();
    for (int matter = 0; matter <= 66; matter++) {
      int m = matter / 10;
      int a = matter % 10;
      if (a <= 6 && now.sights.stream().allMatch(sight -> colour(m, a, sight[0]) == sight[1])) {
        fitting.add(matter);
      }
    }
    return fitting;
  }

  private static int colour(int m, int a, int night) {
    int colour = m;
    for (int i = 0; i < night; i++) {
      colour = (colour + a) % 7;
    }
    return colour;
  }

  int matter(int i) {
    List<Integer> fitting = fitting();
    return i == -1 ? fitting.size() : in(i, 0, fitting.size() - 1) ? fitting.get(i) : NONE;
  }

  int ask(int what) {
    if (!in(what, 0, 1)) {
      return OUTSIDE;
    }
    List<Integer> fitting = fitting();
    if (fitting.isEmpty()) {
      return NONE;
    }
    int[] left = new int[21];
    for (int night = 0; night <= 20; night++) {
      int[] by = new int[7];
      for (int matter : fitting) {
        by[colour(matter / 10, matter % 10, night)]++;
      }
      left[night] = Arrays.stream(by).max().getAsInt();
    }
    int fewest = Arrays.stream(left).min().getAsInt();
    for (int night = 0; ; night++) {
      if (left[night] == fewest) {
        return what == 0 ? night : fewest;
      }
    }
  }

  private static final Map<String, Boolean> WINS = new HashMap<>();

  /** Whether who is on can win, by trying each take; rows are told by how many there are of each length. */
  private static boolean wins(int[] rows) {
    String name = Arrays.toString(rows);
    Boolean known = WINS.get(name);
    if (known != null) {
      return known;
    }
    boolean wins = false;
    for (int row = 1; row < rows.length && !wins; row++) {
      for (int take = 1; take <= Math.min(2, row) && rows[row] > 0 && !wins; take++) {
        for (int left = 0; left + take <= row && !wins; left++) {
          int[] next = rows.clone();
          next[row]--;
          next[left]++;
          next[row - take - left]++;
          next[0] = 0;
          wins = !wins(next);
        }
      }
    }
    WINS.put(name, wins);
    return wins;
  }

  /** Up to 24 turfs by trying each game to its end, which takes too long for more. */
  static int takes(int n, int what) {
    if (!in(n, 0, 60) || !in(what, 0, 1)) {
      return OUTSIDE;
    }
    for (int take = 1; take <= 2; take++) {
      for (int left = 0; left + take <= n; left++) {
        int[] rows = new int[25];
        rows[left]++;
        rows[n - take - left]++;
        rows[0] = 0;
        if (!wins(rows)) {
          return what == 0 ? 1 : 100 * take + left;
        }
      }
    }
    return what == 0 ? 0 : NONE;
  }

  static long lean(int n, int t, int what, int part) {
    if (!in(n, 0, 8) || !in(t, 0, 10) || !in(what, 0, 1) || !in(part, 0, 1) || what == 1 && t == 0) {
      return -1000000000000000002L;
    }
    BigInteger hundred = BigInteger.valueOf(100);
    BigInteger upper = what == 1 ? hundred : hundred.subtract(BigInteger.valueOf((long) t * t)).pow(n);
    BigInteger lower = what == 1 ? BigInteger.valueOf((long) t * t) : hundred.pow(n);
    return (part == 0 ? upper : lower).divide(upper.gcd(lower)).longValueExact();
  }

  int year(int seed, int m, int what) {
    if (!in(seed, 0, 9999) || !in(m, 1, 99) || !in(what, 0, 2)) {
      return OUTSIDE;
    }
    World world = now.copy();
    long x = seed;
    for (int i = 0; i < m; i++) {
      x = (75 * x + 74) % 65537;
      String heap = String.valueOf("ABCDEF".charAt((int) (x % 6)));
      String cell = String.valueOf((char) ('a' + x / 48 % 25));
      String[] deeds = {heap + cell, heap + "+", heap + "-", heap + "*", heap + "^", ".", ".", "."};
      String act = deeds[(int) (x / 6 % 8)];
      if (world.why(act) == 0) {
        world.act(act);
      }
    }
    int heat = world.heaps.stream().mapToInt(heap -> heap.heat).sum();
    return new int[] {Integer.bitCount(bits(world, 0)), Integer.bitCount(bits(world, 1)), heat}[what];
  }

  int image(int n) {
    if (!in(n, 0, 1)) {
      return OUTSIDE;
    }
    images[n] = now.copy();
    return 1;
  }

  int restore(int n) {
    if (!in(n, 0, 1)) {
      return OUTSIDE;
    }
    if (images[n] == null) {
      return STATE;
    }
    now = images[n].copy();
    return 1;
  }

  int told(int what) {
    if (in(what, 0, 6)) {
      return new int[] {pad.length(), now.burners, bits(now, 0), bits(now, 1), bits(now, 2), now.night,
          now.sights.size()}[what];
    }
    if (!in(what, 10, 35) || what % 10 > 5) {
      return OUTSIDE;
    }
    Heap heap = now.heaps.get(what % 10);
    return new int[] {heap.cell(), heap.heat, heap.turfs}[what / 10 - 1];
  }
}
