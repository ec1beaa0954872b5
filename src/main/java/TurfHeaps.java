/**
 * Charcoal heaps on a clearing, the weeks that are told of them, and what can be reckoned from both.
 * ../shared/DOC.md says what each call must do; words in capitals here are its terms.
 */
public final class TurfHeaps {
  public static final int NONE = -6, UNKNOWN = -1, OUTSIDE = -2, STATE = -3, FULL = -4, NO = -5;
  public static final long LOST = -1000000000000000000L;

  private static final int HEAPS = 6;
  private static final int CELLS = 25;
  private static final int ROW_OF_CELLS = 5;
  private static final int NEAR_APART = 2;
  private static final int MOST_HEAT = 9;
  private static final int MOST_TURFS = 9;
  private static final int EVEN_TURFS = 5;
  private static final int CATCHING_TURFS = 2;
  private static final int LIT_HEAT = 3;
  private static final int WATCHED_HEAT = 5;
  private static final int FIRST_TURFS = 5;
  private static final int MOST_BURNERS = 6;
  private static final int FIRST_BURNERS = 2;
  private static final int LAST_NIGHT = 99;

  private static final int MOST_SIGNS = 60;
  private static final int FIRST_SIGN = 33;
  private static final int LAST_SIGN = 126;

  // The kinds of acts, by the numbers that a YEAR draws them with; it draws a night by all from 5 on.
  private static final int STACK = 0;
  private static final int TURF_MORE = 1;
  private static final int TURF_LESS = 2;
  private static final int LIGHT = 3;
  private static final int WATCH = 4;
  private static final int NIGHT = 5;
  private static final int YEAR_KINDS = 8;

  // Why an act can not be, by the document's numbers.
  private static final int NO_REASON = 0;
  private static final int IS_NOWHERE = 1;
  private static final int CELL_TAKEN = 2;
  private static final int IS_ALIGHT = 3;
  private static final int IS_DRAWN = 4;
  private static final int TURFS_AT_END = 5;
  private static final int ALL_WATCH = 6;
  private static final int NIGHTS_AT_END = 7;

  private static final int MOST_SIGHTS = 8;
  private static final int COLOURS = 7;
  private static final int MATTERS = COLOURS * COLOURS;
  private static final int LAST_SEEN_NIGHT = 20;

  private static final int MOST_DUE = 8;
  private static final int MOST_NOD_NIGHTS = 9999;
  private static final int LONGEST_ROW = 60;
  private static final int MOST_TAKEN = 2;
  private static final int MOST_LEAN_NIGHTS = 8;
  private static final int LAST_SEED = 9999;
  private static final int MOST_YEAR_ACTS = 99;

  private final Clearing now;
  private final Pad pad;
  private final Sights sights;
  private final Image image0;
  private final Image image1;

  // Rows and a clearing for reckoning, made once, so that no call makes any.
  private final Week week;
  private final DueRows dueRows;
  private final int[] fitting;
  private final int[] rowValues;
  private int rowValuesKnown;

  public TurfHeaps() {
    now = new Clearing();
    pad = new Pad();
    sights = new Sights();
    image0 = new Image();
    image1 = new Image();
    week = new Week();
    dueRows = new DueRows();
    fitting = new int[MATTERS];
    rowValues = new int[LONGEST_ROW + 1];
    rowValuesKnown = 1; // a row of no turfs has the value 0, as it stands
  }

  // ---- 1 heaps, burners, weeks

  public int heap(int heap, int cell, int heat, int turfs) {
    if (!isHeap(heap) || !isIn(cell, -1, CELLS - 1)) {
      return UNKNOWN;
    }
    int mostHeat = cell < 0 ? 0 : MOST_HEAT;
    if (!isIn(heat, 0, mostHeat) || !isIn(turfs, 0, MOST_TURFS)) {
      return OUTSIDE;
    }
    if (cell >= 0 && now.isTakenByAnother(cell, heap)) {
      return STATE;
    }
    int before = now.cells[heap];
    now.put(heap, cell < 0 ? NONE : cell, heat, turfs);
    return before;
  }

  public int burners(int v) {
    if (!isIn(v, 0, MOST_BURNERS)) {
      return OUTSIDE;
    }
    if (Integer.bitCount(now.watched) > v) {
      return STATE;
    }
    int before = now.burners;
    now.burners = v;
    return before;
  }

  public int say(int sign) {
    if (!isIn(sign, FIRST_SIGN, LAST_SIGN)) {
      return OUTSIDE;
    }
    return pad.append(sign) ? pad.count : FULL;
  }

  public int wipe() {
    int before = pad.count;
    pad.count = 0;
    return before;
  }

  public int fault() {
    return pad.faultPlace();
  }

  // ---- 2 weeks

  public int judge(int what) {
    if (!isIn(what, 0, 1)) {
      return OUTSIDE;
    }
    if (pad.faultPlace() != NONE) {
      return NO;
    }
    week.tryOut(pad, now);
    return what == 0 ? week.stoppedAct : week.stoppedWhy;
  }

  public int done() {
    if (!week.tryOut(pad, now)) {
      return NO;
    }
    now.copyFrom(week.trial);
    pad.count = 0;
    return week.acts;
  }

  public int behind(int heap, int what) {
    if (!isHeap(heap)) {
      return UNKNOWN;
    }
    if (!isIn(what, 0, 2)) {
      return OUTSIDE;
    }
    if (!week.tryOut(pad, now)) {
      return NO;
    }
    switch (what) {
      case 0:
        return week.trial.heats[heap];
      case 1:
        return week.trial.turfs[heap];
      default:
        return week.trial.cells[heap];
    }
  }

  public int then(int what) {
    if (!isIn(what, 0, 6)) {
      return OUTSIDE;
    }
    if (!week.tryOut(pad, now)) {
      return NO;
    }
    switch (what) {
      case 0:
        return week.trial.known;
      case 1:
        return week.trial.drawn;
      case 2:
        return week.trial.watched;
      case 3:
        return week.flares;
      case 4:
        return week.trial.night;
      case 5:
        return week.firstFlareAct;
      default:
        return week.firstFlareHeap;
    }
  }

  // ---- 3 chains, covers, nights

  public int chain(int heap) {
    if (!isHeap(heap)) {
      return UNKNOWN;
    }
    if (!now.isAlight(heap)) {
      return STATE;
    }
    return now.flaringBy(heap, 0);
  }

  public int cover(int heap, int other, int what) {
    if (!isHeap(heap) || !isHeap(other) || heap == other) {
      return UNKNOWN;
    }
    if (!isIn(what, 0, 1)) {
      return OUTSIDE;
    }
    if (!now.isAlight(heap) || !now.isAlight(other)) {
      return STATE;
    }
    int covered = fewestCovered(heap, other);
    if (covered == NONE) {
      return NONE;
    }
    return what == 0 ? Integer.bitCount(covered) : covered;
  }

  private int fewestCovered(int heap, int other) {
    int both = 1 << heap | 1 << other;
    int best = NONE;
    int fewest = HEAPS + 1;
    for (int covered = 0; covered < 1 << HEAPS; covered++) {
      boolean mayBe = (covered & both) == 0 && Integer.bitCount(covered) < fewest;
      if (mayBe && !hasBit(now.flaringBy(heap, covered), other)) {
        best = covered;
        fewest = Integer.bitCount(covered);
      }
    }
    return best;
  }

  public int due(int nights, long days, int n, int what) {
    if (!isIn(n, 1, MOST_DUE) || !isIn(what, 0, 1)) {
      return OUTSIDE;
    }
    if (!dueRows.readNights(nights, n) || !dueRows.readDays(days, n)) {
      return OUTSIDE;
    }
    int drawn = dueRows.mostInTime(n);
    return what == 0 ? Integer.bitCount(drawn) : drawn;
  }

  public int nods(int a, int b, int c, int d, int n, int what) {
    if (!isIn(a, 1, 9) || !isIn(b, 1, 9) || !isIn(c, 1, 9) || !isIn(d, 1, 9)) {
      return OUTSIDE;
    }
    if (!isIn(n, 0, MOST_NOD_NIGHTS) || !isIn(what, 0, 1)) {
      return OUTSIDE;
    }
    int period = (a + b) * (c + d);
    if (what == 1) {
      return firstNightAsleep(a, b, c, d, period);
    }
    int perPeriod = nightsAsleep(a, b, c, d, period);
    return n / period * perPeriod + nightsAsleep(a, b, c, d, n % period);
  }

  private static int nightsAsleep(int a, int b, int c, int d, int n) {
    int count = 0;
    for (int night = 1; night <= n; night++) {
      if (isAsleep(a, b, night) && isAsleep(c, d, night)) {
        count++;
      }
    }
    return count;
  }

  /** Both sleep on the last night of a period at the latest: each one's turn ends with a night asleep. */
  private static int firstNightAsleep(int a, int b, int c, int d, int period) {
    for (int night = 1; night <= period; night++) {
      if (isAsleep(a, b, night) && isAsleep(c, d, night)) {
        return night;
      }
    }
    return NONE;
  }

  private static boolean isAsleep(int awake, int asleep, int night) {
    int turn = awake + asleep;
    return turn > 0 && (night - 1) % turn >= awake;
  }

  // ---- 4 threads, turns, leaning

  public int seen(int night, int v) {
    if (!isIn(night, 0, LAST_SEEN_NIGHT) || !isIn(v, 0, COLOURS - 1)) {
      return OUTSIDE;
    }
    return sights.append(night, v) ? sights.count : FULL;
  }

  public int forget() {
    int before = sights.count;
    sights.count = 0;
    return before;
  }

  public int matter(int i) {
    int count = sights.listFitting(fitting);
    if (i == -1) {
      return count;
    }
    return i >= 0 && i < count ? fitting[i] : NONE;
  }

  public int ask(int what) {
    if (!isIn(what, 0, 1)) {
      return OUTSIDE;
    }
    int count = sights.listFitting(fitting);
    if (count == 0) {
      return NONE;
    }
    int bestNight = NONE;
    int fewest = MATTERS + 1;
    for (int night = 0; night <= LAST_SEEN_NIGHT; night++) {
      int left = mostLeft(night, count);
      if (left < fewest) {
        bestNight = night;
        fewest = left;
      }
    }
    return what == 0 ? bestNight : fewest;
  }

  /** How many of those that fit are left at the most, when the colour of a night is told. */
  private int mostLeft(int night, int count) {
    int most = 0;
    for (int colour = 0; colour < COLOURS; colour++) {
      most = Math.max(most, countLeft(night, colour, count));
    }
    return most;
  }

  private int countLeft(int night, int colour, int count) {
    int left = 0;
    for (int i = 0; i < count && i < MATTERS; i++) {
      if (colourOf(fitting[i] / 10, fitting[i] % 10, night) == colour) {
        left++;
      }
    }
    return left;
  }

  private static int colourOf(int first, int more, int night) {
    return (first + more * night) % COLOURS;
  }

  public int takes(int n, int what) {
    if (!isIn(n, 0, LONGEST_ROW) || !isIn(what, 0, 1)) {
      return OUTSIDE;
    }
    learnRowValues(n);
    int take = winningTake(n);
    if (what == 1) {
      return take;
    }
    return take == NONE ? 0 : 1;
  }

  /** Two rows with the same value are lost together for who is on: the other one can answer each take. */
  private int winningTake(int n) {
    for (int taken = 1; taken <= MOST_TAKEN; taken++) {
      for (int left = 0; left + taken <= n; left++) {
        if (rowValues[left] == rowValues[n - taken - left]) {
          return 100 * taken + left;
        }
      }
    }
    return NONE;
  }

  private void learnRowValues(int n) {
    for (int row = rowValuesKnown; row <= n; row++) {
      rowValues[row] = leastNotReached(row);
      rowValuesKnown = row + 1;
    }
  }

  private int leastNotReached(int row) {
    long reached = 0;
    for (int taken = 1; taken <= MOST_TAKEN; taken++) {
      for (int left = 0; left + taken <= row; left++) {
        reached |= 1L << (rowValues[left] ^ rowValues[row - taken - left]);
      }
    }
    int value = 0;
    while (value < 63 && (reached >> value & 1) != 0) {
      value++;
    }
    return value;
  }

  public long lean(int n, int t, int what, int part) {
    if (!isIn(n, 0, MOST_LEAN_NIGHTS) || !isIn(t, what == 1 ? 1 : 0, 10)) {
      return LOST + OUTSIDE;
    }
    if (!isIn(what, 0, 1) || !isIn(part, 0, 1)) {
      return LOST + OUTSIDE;
    }
    int fallsOfHundred = t * t;
    if (what == 1) {
      return inLowestTerms(100, fallsOfHundred, part);
    }
    long upper = 1;
    long lower = 1;
    for (int night = 0; night < n; night++) {
      upper *= 100 - fallsOfHundred;
      lower *= 100;
    }
    return inLowestTerms(upper, lower, part);
  }

  private static long inLowestTerms(long upper, long lower, int part) {
    long divisor = greatestDivisor(upper, lower);
    long told = part == 0 ? upper : lower;
    return divisor == 0 ? told : told / divisor;
  }

  private static long greatestDivisor(long one, long other) {
    long a = one;
    long b = other;
    for (int step = 0; step < 1000 && b != 0; step++) {
      long rest = a % b;
      a = b;
      b = rest;
    }
    return a;
  }

  public int year(int seed, int m, int what) {
    if (!isIn(seed, 0, LAST_SEED) || !isIn(m, 1, MOST_YEAR_ACTS) || !isIn(what, 0, 2)) {
      return OUTSIDE;
    }
    Clearing trial = week.trial;
    trial.copyFrom(now);
    int x = seed;
    for (int act = 0; act < m; act++) {
      x = (75 * x + 74) % 65537;
      int heap = Math.floorMod(x, HEAPS);
      int kind = Math.min(x / HEAPS % YEAR_KINDS, NIGHT);
      int cell = x / (HEAPS * YEAR_KINDS) % CELLS;
      if (trial.reasonAgainst(kind, heap, cell) == NO_REASON) {
        trial.perform(kind, heap, cell);
      }
    }
    switch (what) {
      case 0:
        return Integer.bitCount(trial.known);
      case 1:
        return Integer.bitCount(trial.drawn);
      default:
        return trial.heatOfAll();
    }
  }

  public int image(int n) {
    if (!isIn(n, 0, 1)) {
      return OUTSIDE;
    }
    Image image = n == 0 ? image0 : image1;
    image.clearing.copyFrom(now);
    image.sights.copyFrom(sights);
    image.isKept = true;
    return 1;
  }

  public int restore(int n) {
    if (!isIn(n, 0, 1)) {
      return OUTSIDE;
    }
    Image image = n == 0 ? image0 : image1;
    if (!image.isKept) {
      return STATE;
    }
    now.copyFrom(image.clearing);
    sights.copyFrom(image.sights);
    return 1;
  }

  public int told(int what) {
    if (what >= 10) {
      return toldOfHeap(what / 10, what % 10);
    }
    switch (what) {
      case 0:
        return pad.count;
      case 1:
        return now.burners;
      case 2:
        return now.known;
      case 3:
        return now.drawn;
      case 4:
        return now.watched;
      case 5:
        return now.night;
      case 6:
        return sights.count;
      default:
        return OUTSIDE;
    }
  }

  private int toldOfHeap(int tens, int heap) {
    if (!isHeap(heap)) {
      return OUTSIDE;
    }
    switch (tens) {
      case 1:
        return now.cells[heap];
      case 2:
        return now.heats[heap];
      case 3:
        return now.turfs[heap];
      default:
        return OUTSIDE;
    }
  }

  // ---- what several parts ask

  private static boolean isIn(long number, long least, long most) {
    return number >= least && number <= most;
  }

  private static boolean isHeap(int heap) {
    return isIn(heap, 0, HEAPS - 1);
  }

  private static boolean hasBit(int bits, int place) {
    return (bits >> place & 1) != 0;
  }

  /** Heaps, burners and the night: all that acts can change. */
  private static final class Clearing {
    final int[] cells;
    final int[] heats;
    final int[] turfs;
    int known;
    int drawn;
    int watched;
    int burners;
    int night;

    Clearing() {
      cells = new int[HEAPS];
      heats = new int[HEAPS];
      turfs = new int[HEAPS];
      for (int heap = 0; heap < HEAPS; heap++) {
        cells[heap] = NONE;
        turfs[heap] = FIRST_TURFS;
      }
      burners = FIRST_BURNERS;
    }

    void copyFrom(Clearing other) {
      for (int heap = 0; heap < HEAPS; heap++) {
        cells[heap] = other.cells[heap];
        heats[heap] = other.heats[heap];
        turfs[heap] = other.turfs[heap];
      }
      known = other.known;
      drawn = other.drawn;
      watched = other.watched;
      burners = other.burners;
      night = other.night;
    }

    void put(int heap, int cell, int heat, int turfCount) {
      cells[heap] = cell;
      heats[heap] = heat;
      turfs[heap] = turfCount;
      drawn &= ~(1 << heap);
      watched &= ~(1 << heap);
    }

    boolean isAlight(int heap) {
      return heats[heap] > 0;
    }

    boolean isTakenByAnother(int cell, int heap) {
      for (int other = 0; other < HEAPS; other++) {
        if (other != heap && cells[other] == cell) {
          return true;
        }
      }
      return false;
    }

    int heatOfAll() {
      int sum = 0;
      for (int heap = 0; heap < HEAPS; heap++) {
        sum += heats[heap];
      }
      return sum;
    }

    boolean areNear(int one, int other) {
      int a = cells[one];
      int b = cells[other];
      if (one == other || a == NONE || b == NONE) {
        return false;
      }
      int rows = Math.abs(a / ROW_OF_CELLS - b / ROW_OF_CELLS);
      int columns = Math.abs(a % ROW_OF_CELLS - b % ROW_OF_CELLS);
      return rows + columns <= NEAR_APART;
    }

    int countNear(int heap, int others) {
      int count = 0;
      for (int other = 0; other < HEAPS; other++) {
        if (hasBit(others, other) && areNear(heap, other)) {
          count++;
        }
      }
      return count;
    }

    /** What flares if one does, while the covered ones have so many turfs that they can not. */
    int flaringBy(int first, int covered) {
      int flaring = 1 << first;
      // Each round but the last adds a heap, so there are no more rounds than heaps.
      for (int round = 0; round < HEAPS; round++) {
        int before = flaring;
        for (int heap = 0; heap < HEAPS; heap++) {
          if (canCatch(heap, covered) && countNear(heap, flaring) > 0) {
            flaring |= 1 << heap;
          }
        }
        if (flaring == before) {
          break;
        }
      }
      return flaring;
    }

    boolean canCatch(int heap, int covered) {
      return isAlight(heap) && turfs[heap] <= CATCHING_TURFS && !hasBit(covered, heap);
    }

    /** The least reason why an act can not be; NO_REASON if it can. */
    int reasonAgainst(int kind, int heap, int cell) {
      if (kind == NIGHT) {
        return night >= LAST_NIGHT ? NIGHTS_AT_END : NO_REASON;
      }
      if (kind == STACK) {
        return isTakenByAnother(cell, heap) ? CELL_TAKEN : isAlight(heap) ? IS_ALIGHT : NO_REASON;
      }
      if (cells[heap] == NONE) {
        return IS_NOWHERE;
      }
      switch (kind) {
        case TURF_MORE:
          return turfs[heap] >= MOST_TURFS ? TURFS_AT_END : NO_REASON;
        case TURF_LESS:
          return turfs[heap] <= 0 ? TURFS_AT_END : NO_REASON;
        case LIGHT:
          return isAlight(heap) ? IS_ALIGHT : hasBit(drawn, heap) ? IS_DRAWN : NO_REASON;
        default:
          return hasBit(watched, heap) || Integer.bitCount(watched) < burners ? NO_REASON : ALL_WATCH;
      }
    }

    /** Does an act that can be, and answers the bits of those that flare by it. */
    int perform(int kind, int heap, int cell) {
      switch (kind) {
        case STACK:
          cells[heap] = cell;
          drawn &= ~(1 << heap);
          return 0;
        case TURF_MORE:
          turfs[heap]++;
          return 0;
        case TURF_LESS:
          turfs[heap]--;
          return 0;
        case LIGHT:
          heats[heap] = LIT_HEAT;
          return 0;
        case WATCH:
          watched ^= 1 << heap;
          return 0;
        default:
          return passNight();
      }
    }

    int passNight() {
      night++;
      int flared = 0;
      for (int heap = 0; heap < HEAPS; heap++) {
        if (isAlight(heap) && smoulder(heap)) {
          flared |= 1 << heap;
        }
      }
      known |= flared;
      for (int heap = 0; heap < HEAPS; heap++) {
        if (isAlight(heap)) {
          turfs[heap] = Math.max(0, turfs[heap] - countNear(heap, flared));
        }
      }
      return flared;
    }

    /** A night of one heap that is alight: whether it flares. */
    boolean smoulder(int heap) {
      int heat = heats[heap] + EVEN_TURFS - turfs[heap];
      if (heat <= 0) {
        heats[heap] = 0;
        drawn |= 1 << heap;
        return false;
      }
      if (heat <= MOST_HEAT) {
        heats[heap] = heat;
        return false;
      }
      boolean isWatched = hasBit(watched, heap);
      heats[heap] = isWatched ? WATCHED_HEAT : MOST_HEAT;
      return !isWatched;
    }
  }

  /** The signs of the weeks that are told. */
  private static final class Pad {
    final int[] signs;
    int count;

    Pad() {
      signs = new int[MOST_SIGNS];
    }

    boolean append(int sign) {
      if (count < 0 || count >= MOST_SIGNS) {
        return false;
      }
      signs[count] = sign;
      count++;
      return true;
    }

    int faultPlace() {
      boolean isHeapNamed = false;
      for (int place = 0; place < count && place < MOST_SIGNS; place++) {
        boolean namesHeap = isHeapLetter(signs[place]);
        boolean canStand = isHeapNamed ? isDeed(signs[place]) : namesHeap || signs[place] == '.';
        if (!canStand) {
          return place;
        }
        isHeapNamed = namesHeap;
      }
      return isHeapNamed ? count : NONE;
    }

    static boolean isHeapLetter(int sign) {
      return isIn(sign, 'A', 'F');
    }

    static boolean isCellLetter(int sign) {
      return isIn(sign, 'a', 'y');
    }

    static boolean isDeed(int sign) {
      return isCellLetter(sign) || sign == '+' || sign == '-' || sign == '*' || sign == '^';
    }

    static int kindOf(int sign) {
      switch (sign) {
        case '+':
          return TURF_MORE;
        case '-':
          return TURF_LESS;
        case '*':
          return LIGHT;
        case '^':
          return WATCH;
        case '.':
          return NIGHT;
        default:
          return STACK;
      }
    }
  }

  /** The weeks on the pad, tried out on a clearing of their own. */
  private static final class Week {
    final Clearing trial;
    int acts;
    int stoppedAct;
    int stoppedWhy;
    int flares;
    int firstFlareAct;
    int firstFlareHeap;

    Week() {
      trial = new Clearing();
    }

    /** Whether all that the pad tells can be done; if so, the trial clearing is as behind it. */
    boolean tryOut(Pad pad, Clearing start) {
      begin(start);
      if (pad.faultPlace() != NONE) {
        return false;
      }
      // With no fault, a heap's letter is in front of each sign that needs one.
      int heap = 0;
      for (int place = 0; place < pad.count && place < MOST_SIGNS; place++) {
        int sign = pad.signs[place];
        if (Pad.isHeapLetter(sign)) {
          heap = sign - 'A';
          continue;
        }
        int kind = Pad.kindOf(sign);
        int cell = sign - 'a';
        int reason = trial.reasonAgainst(kind, heap, cell);
        if (reason != NO_REASON) {
          stoppedAct = acts;
          stoppedWhy = reason;
          return false;
        }
        noteFlares(trial.perform(kind, heap, cell));
        acts++;
      }
      return true;
    }

    void begin(Clearing start) {
      trial.copyFrom(start);
      acts = 0;
      stoppedAct = NONE;
      stoppedWhy = NONE;
      flares = 0;
      firstFlareAct = NONE;
      firstFlareHeap = NONE;
    }

    void noteFlares(int flared) {
      flares += Integer.bitCount(flared);
      for (int heap = 0; heap < HEAPS && firstFlareAct == NONE; heap++) {
        if (hasBit(flared, heap)) {
          firstFlareAct = acts;
          firstFlareHeap = heap;
        }
      }
    }
  }

  /** The colours that a thread was seen to have. */
  private static final class Sights {
    final int[] nights;
    final int[] colours;
    int count;

    Sights() {
      nights = new int[MOST_SIGHTS];
      colours = new int[MOST_SIGHTS];
    }

    void copyFrom(Sights other) {
      for (int i = 0; i < MOST_SIGHTS; i++) {
        nights[i] = other.nights[i];
        colours[i] = other.colours[i];
      }
      count = other.count;
    }

    boolean append(int night, int colour) {
      if (count < 0 || count >= MOST_SIGHTS) {
        return false;
      }
      nights[count] = night;
      colours[count] = colour;
      count++;
      return true;
    }

    boolean fit(int first, int more) {
      for (int i = 0; i < count && i < MOST_SIGHTS; i++) {
        if (colourOf(first, more, nights[i]) != colours[i]) {
          return false;
        }
      }
      return true;
    }

    /** Puts all that fits into a row, rising, and answers how many these are. */
    int listFitting(int[] row) {
      int found = 0;
      for (int first = 0; first < COLOURS; first++) {
        for (int more = 0; more < COLOURS; more++) {
          if (found < row.length && fit(first, more)) {
            row[found] = 10 * first + more;
            found++;
          }
        }
      }
      return found;
    }
  }

  /** All but the pad, as it was once. */
  private static final class Image {
    final Clearing clearing;
    final Sights sights;
    boolean isKept;

    Image() {
      clearing = new Clearing();
      sights = new Sights();
    }
  }

  /** Heaps that take nights one behind another, each with the night by which it must be drawn. */
  private static final class DueRows {
    final int[] nights;
    final int[] days;

    DueRows() {
      nights = new int[MOST_DUE];
      days = new int[MOST_DUE];
    }

    /** Whether the number has just n digits, none of them 0. */
    boolean readNights(int digits, int n) {
      int rest = digits;
      for (int i = n - 1; i >= 0 && i < MOST_DUE; i--) {
        int digit = rest % 10;
        if (digit <= 0) {
          return false;
        }
        nights[i] = digit;
        rest /= 10;
      }
      return rest == 0;
    }

    /** Whether the number has no more than n pairs of digits. */
    boolean readDays(long pairs, int n) {
      if (pairs < 0) {
        return false;
      }
      long rest = pairs;
      for (int i = n - 1; i >= 0 && i < MOST_DUE; i--) {
        days[i] = (int) (rest % 100);
        rest /= 100;
      }
      return rest == 0;
    }

    /** The bits of as many as can be drawn in time, the least of these. */
    int mostInTime(int n) {
      int best = 0;
      for (int drawn = 1; drawn < 1 << n; drawn++) {
        if (Integer.bitCount(drawn) > Integer.bitCount(best) && areInTime(drawn, n)) {
          best = drawn;
        }
      }
      return best;
    }

    /** If these can be drawn in time at all, they can in the order of their days. */
    boolean areInTime(int drawn, int n) {
      for (int i = 0; i < n && i < MOST_DUE; i++) {
        if (hasBit(drawn, i) && nightsUntil(days[i], drawn, n) > days[i]) {
          return false;
        }
      }
      return true;
    }

    /** The nights that are taken by all of these that must be drawn by a day. */
    int nightsUntil(int day, int drawn, int n) {
      int sum = 0;
      for (int i = 0; i < n && i < MOST_DUE; i++) {
        if (hasBit(drawn, i) && days[i] <= day) {
          sum += nights[i];
        }
      }
      return sum;
    }
  }
}
