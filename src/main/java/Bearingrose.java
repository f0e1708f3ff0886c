import java.util.NoSuchElementException;

/**
 * Directions by the angles of StrictMath.atan2: pairs of whole numbers, a rose of marks in the
 * order of angles, and a closed walk whose sides are seen from a point.
 */
public final class Bearingrose {
  /** The number that stands for the nought below, -0.0. */
  private static final int NOUGHT_BELOW = 128;
  private static final int MOST_OF_A_PAIR = 127;
  private static final int MOST_OF_A_POINT = 63;
  private static final int MOST_MARKS = 24;
  private static final int MOST_CORNERS = 16;
  /** The points that isTrue() looks from have numbers from -2 to 2. */
  private static final int MOST_OF_A_LOOK = 2;

  private final Rose rose = new Rose();
  private final Walk walk = new Walk();

  public Bearingrose() {
  }

  // ---- angles

  public long angle(int y, int x) throws IllegalArgumentException {
    if (!isPair(y, x)) throw new IllegalArgumentException("no pair with a direction");
    return Angles.units(Angles.bearing(y, x));
  }

  public int floatBits(int y, int x) throws IllegalArgumentException {
    if (!isPair(y, x)) throw new IllegalArgumentException("no pair with a direction");
    return Angles.bitsAsFloat(Angles.bearing(y, x));
  }

  public long axisBits(int y, int x) throws IllegalArgumentException, IllegalStateException {
    if (!isPair(y, x)) throw new IllegalArgumentException("no pair with a direction");
    if (!isNought(y) && !isNought(x)) throw new IllegalStateException("not along an axis");
    return Angles.bits(Angles.bearing(y, x));
  }

  public int quarter(int y, int x) throws IllegalArgumentException {
    if (!isPair(y, x)) throw new IllegalArgumentException("no pair with a direction");
    boolean isRight = !isNought(x) && x > 0;
    if (isNought(y)) return isRight ? 0 : 2;
    if (y > 0) return isRight ? 0 : 1;
    return isRight || isNought(x) ? 3 : 2;
  }

  public int order(int y, int x, int v, int u) throws IllegalArgumentException {
    if (!isPair(y, x)) throw new IllegalArgumentException("no first pair with a direction");
    if (!isPair(v, u)) throw new IllegalArgumentException("no second pair with a direction");
    double first = Angles.bearing(y, x);
    double second = Angles.bearing(v, u);
    if (first < second) return -1;
    return first > second ? 1 : 0;
  }

  public boolean isMirrored(int y, int x) throws IllegalArgumentException {
    if (!isPair(y, x)) throw new IllegalArgumentException("no pair with a direction");
    return Angles.agreesMirrored(y, x);
  }

  public boolean isQuotient(int y, int x) throws IllegalArgumentException, IllegalStateException {
    if (!isPair(y, x)) throw new IllegalArgumentException("no pair with a direction");
    if (isNought(x) || x < 0) throw new IllegalStateException("x is not above 0");
    return Angles.agreesWithQuotient(y, x);
  }

  public boolean isReduced(int y, int x) throws IllegalArgumentException {
    if (!isPair(y, x)) throw new IllegalArgumentException("no pair with a direction");
    return Angles.agreesReduced(y, x);
  }

  // ---- the rose

  public int mark(int y, int x) throws IllegalArgumentException, IllegalStateException {
    if (!isMark(y, x)) throw new IllegalArgumentException("no mark has these numbers");
    if (rose.size >= MOST_MARKS) throw new IllegalStateException("the rose is full");
    return rose.add(y, x);
  }

  public int take(int place) throws IndexOutOfBoundsException {
    if (place < 0 || place >= rose.size) throw new IndexOutOfBoundsException("no such place");
    return rose.removeAt(place);
  }

  public int markAt(int place) throws IndexOutOfBoundsException {
    if (place < 0 || place >= rose.size) throw new IndexOutOfBoundsException("no such place");
    return rose.numbers[place];
  }

  public int marks() {
    return rose.size;
  }

  public int inSector(int y, int x, int v, int u) throws IllegalArgumentException {
    if (!isMark(y, x)) throw new IllegalArgumentException("no first pair of a mark's numbers");
    if (!isMark(v, u)) throw new IllegalArgumentException("no second pair of a mark's numbers");
    return rose.countBetween(Angles.bearing(y, x), Angles.bearing(v, u));
  }

  public int opposites() {
    return rose.countOpposites();
  }

  public boolean isOneSided() {
    return rose.fitsOneSide();
  }

  public long sum() {
    return rose.sumOfUnits();
  }

  // ---- the walk

  public int corner(int x, int y) throws IllegalArgumentException, IllegalStateException {
    if (!isPoint(x, y)) throw new IllegalArgumentException("no point has these numbers");
    if (walk.size >= MOST_CORNERS) throw new IllegalStateException("the walk is full");
    return walk.add(x, y);
  }

  public boolean shift(int corner, int x, int y)
      throws IndexOutOfBoundsException, IllegalArgumentException {
    if (corner < 0 || corner >= walk.size) throw new IndexOutOfBoundsException("no such corner");
    if (!isPoint(x, y)) throw new IllegalArgumentException("no point has these numbers");
    return walk.move(corner, x, y);
  }

  public int drop() throws NoSuchElementException {
    if (walk.size <= 0) throw new NoSuchElementException("the walk has no corner");
    return walk.removeLast();
  }

  public boolean isOn(int x, int y) throws IllegalArgumentException {
    if (!isPoint(x, y)) throw new IllegalArgumentException("no point has these numbers");
    return walk.holds(x, y);
  }

  public int winding(int x, int y) throws IllegalArgumentException, IllegalStateException {
    if (!isPoint(x, y)) throw new IllegalArgumentException("no point has these numbers");
    if (walk.holds(x, y)) throw new IllegalStateException("the point lies on the walk");
    return walk.timesRound(x, y);
  }

  public int turning() throws IllegalStateException {
    if (!walk.hasTurns()) throw new IllegalStateException("a turn is not told");
    return walk.wholeTurns();
  }

  public int hull() throws IllegalStateException {
    int size = walk.wrap();
    if (size == 0) throw new IllegalStateException("all points lie in one line");
    return size;
  }

  public int hullCorner(int place) throws IllegalStateException, IndexOutOfBoundsException {
    int size = walk.wrap();
    if (size == 0) throw new IllegalStateException("all points lie in one line");
    if (place < 0 || place >= size) throw new IndexOutOfBoundsException("no such place");
    return walk.polygon[place];
  }

  // ---- all

  public boolean isTrue() {
    return rose.agrees() && walk.agrees();
  }

  public long checksum() {
    long running = walk.addTo(rose.addTo(7L));
    return 31L * running + walk.wrap();
  }

  private static boolean isNought(int number) {
    return number == 0 || number == NOUGHT_BELOW;
  }

  private static boolean isPair(int y, int x) {
    return isOfPair(y) && isOfPair(x) && !(isNought(y) && isNought(x));
  }

  private static boolean isOfPair(int number) {
    return number >= -MOST_OF_A_PAIR && number <= NOUGHT_BELOW;
  }

  private static boolean isMark(int y, int x) {
    return isPair(y, x) && y <= MOST_OF_A_PAIR && x <= MOST_OF_A_PAIR;
  }

  private static boolean isPoint(int x, int y) {
    return isOfPoint(x) && isOfPoint(y);
  }

  private static boolean isOfPoint(int number) {
    return number >= -MOST_OF_A_POINT && number <= MOST_OF_A_POINT;
  }

  /** Above 0, if (bx, by) is met from (ax, ay) by a turn to the left of less than half a turn. */
  private static int cross(int ax, int ay, int bx, int by) {
    return ax * by - ay * bx;
  }

  /** Whether two pairs, neither of two noughts, point just away from each other. */
  private static boolean areOpposite(int ax, int ay, int bx, int by) {
    return cross(ax, ay, bx, by) == 0 && ax * bx + ay * by < 0;
  }

  /**
   * What StrictMath.atan2 and StrictMath.atan answer for numbers of pairs, bit by bit. The steps
   * and their order are those of fdlibm, which StrictMath is bound to; another order would round
   * otherwise. Doubles that no quotient of whole numbers up to 127 reaches are left out.
   */
  private static final class Angles {
    private static final long SIGN_OF_LONG = 1L << 63;
    private static final int SIGN_OF_INT = 1 << 31;

    static double bearing(int y, int x) {
      double up = valueOf(y);
      double right = valueOf(x);
      if (up == 0.0) return right > 0.0 ? up : withSignOf(up, halfTurn());
      if (right == 0.0) return withSignOf(up, 1.5707963267948966);
      double steepness = up / right;
      double angle = atan(steepness < 0.0 ? -steepness : steepness);
      // half a turn is no double: what its nearest one lacks is given to the lesser angle first
      if (right < 0.0) angle = halfTurn() - (angle - 1.2246467991473532E-16);
      return withSignOf(up, angle);
    }

    static double atan(double tangent) {
      // the series would answer the other nought for the nought below
      if (tangent == 0.0) return tangent;
      double t = tangent < 0.0 ? -tangent : tangent;
      double near = 0.0;
      double lack = 0.0;
      if (t >= 2.4375) {
        near = 1.5707963267948966;
        lack = 6.123233995736766E-17;
        t = -1.0 / t;
      } else if (t >= 1.1875) {
        near = 0.982793723247329;
        lack = 1.3903311031230998E-17;
        t = (t - 1.5) / (1.0 + 1.5 * t);
      } else if (t >= 0.6875) {
        near = 0.7853981633974483;
        lack = 3.061616997868383E-17;
        t = (t - 1.0) / (t + 1.0);
      } else if (t >= 0.4375) {
        near = 0.4636476090008061;
        lack = 2.2698777452961687E-17;
        t = (2.0 * t - 1.0) / (2.0 + t);
      }
      double angle = near - ((t * series(t) - lack) - t);
      return tangent < 0.0 ? -angle : angle;
    }

    /** What the angle of tangent t lacks to t, as a part of t; even and odd powers go apart. */
    private static double series(double t) {
      double z = t * t;
      double w = z * z;
      double even = 4.97687799461593236017e-02 + w * 1.62858201153657823623e-02;
      even = 6.66107313738753120669e-02 + w * even;
      even = 9.09088713343650656196e-02 + w * even;
      even = 1.42857142725034663711e-01 + w * even;
      even = 3.33333333333329318027e-01 + w * even;
      double odd = -5.83357013379057348645e-02 + w * -3.65315727442169155270e-02;
      odd = -7.69187620504482999495e-02 + w * odd;
      odd = -1.11111104054623557880e-01 + w * odd;
      odd = -1.99999999998764832476e-01 + w * odd;
      return z * even + w * odd;
    }

    static double halfTurn() {
      return 3.141592653589793;
    }

    private static double valueOf(int number) {
      return number == NOUGHT_BELOW ? -0.0 : (double) number;
    }

    /** Only what a nought divides tells the two noughts apart. */
    private static boolean hasMinus(double value) {
      return value == 0.0 ? 1.0 / value < 0.0 : value < 0.0;
    }

    private static double withSignOf(double sign, double value) {
      return hasMinus(sign) ? -value : value;
    }

    /** Whether two doubles are so bit by bit: as numbers only the two noughts hide their signs. */
    static boolean areAlike(double a, double b) {
      return a == b && hasMinus(a) == hasMinus(b);
    }

    static long units(double angle) {
      double scaled = angle * 1048576.0;
      long whole = (long) scaled;
      return (double) whole > scaled ? whole - 1L : whole;
    }

    static long bits(double value) {
      long sign = hasMinus(value) ? SIGN_OF_LONG : 0L;
      if (value == 0.0) return sign;
      double part = value < 0.0 ? -value : value;
      long exponent = 1023L;
      // an angle that is no nought lies between 1/128 and 4
      for (int step = 0; step < 8 && part < 1.0; step++) {
        part = part * 2.0;
        exponent--;
      }
      for (int step = 0; step < 8 && part >= 2.0; step++) {
        part = part / 2.0;
        exponent++;
      }
      return sign | exponent << 52 | (long) ((part - 1.0) * 4503599627370496.0);
    }

    /** A float is a double of fewer bits, so its bits are cut from those of that double. */
    static int bitsAsFloat(double value) {
      long wide = bits((double) (float) value);
      int sign = wide < 0L ? SIGN_OF_INT : 0;
      long rest = wide & ~SIGN_OF_LONG;
      if (rest == 0L) return sign;
      return sign | (int) ((rest >> 29) - ((1023L - 127L) << 23));
    }

    static boolean agreesMirrored(int y, int x) {
      return areAlike(bearing(mirrored(y), x), -bearing(y, x));
    }

    private static int mirrored(int number) {
      if (number == 0) return NOUGHT_BELOW;
      return number == NOUGHT_BELOW ? 0 : -number;
    }

    /** For x above 0 alone. */
    static boolean agreesWithQuotient(int y, int x) {
      return areAlike(bearing(y, x), atan(valueOf(y) / valueOf(x)));
    }

    static boolean agreesReduced(int y, int x) {
      int divisor = commonDivisor(y, x);
      return areAlike(bearing(y, x), bearing(divided(y, divisor), divided(x, divisor)));
    }

    private static int divided(int number, int divisor) {
      return isNought(number) || divisor < 1 ? number : number / divisor;
    }

    private static int commonDivisor(int y, int x) {
      int greater = isNought(y) ? 0 : Math.abs(y);
      int less = isNought(x) ? 0 : Math.abs(x);
      // each two steps halve the lesser one, so that 127 is gone well before the bound
      for (int step = 0; step < 32 && less != 0; step++) {
        int rest = greater % less;
        greater = less;
        less = rest;
      }
      return greater;
    }
  }

  /** The marks, kept in the order of their places. */
  private static final class Rose {
    private final int[] ys = new int[MOST_MARKS];
    private final int[] xs = new int[MOST_MARKS];
    private final int[] numbers = new int[MOST_MARKS];
    private final double[] angles = new double[MOST_MARKS];
    private int size = 0;
    private int nextNumber = 0;

    int add(int y, int x) {
      double angle = Angles.bearing(y, x);
      int place = size;
      // the new number is the greatest one, so its place is behind all of a like angle
      for (; place > 0 && angles[place - 1] > angle; place--) copy(place - 1, place);
      ys[place] = y;
      xs[place] = x;
      numbers[place] = nextNumber;
      angles[place] = angle;
      size++;
      nextNumber++;
      return nextNumber - 1;
    }

    int removeAt(int place) {
      int number = numbers[place];
      for (int i = place + 1; i < size; i++) copy(i, i - 1);
      size--;
      return number;
    }

    private void copy(int from, int to) {
      ys[to] = ys[from];
      xs[to] = xs[from];
      numbers[to] = numbers[from];
      angles[to] = angles[from];
    }

    int countBetween(double from, double to) {
      int count = 0;
      for (int i = 0; i < size; i++) {
        boolean isBehind = angles[i] >= from;
        boolean isAhead = angles[i] <= to;
        // a sector from the greater angle to the lesser one goes through half a turn
        if (from <= to ? isBehind && isAhead : isBehind || isAhead) count++;
      }
      return count;
    }

    int countOpposites() {
      int count = 0;
      for (int i = 0; i < size; i++) {
        for (int j = i + 1; j < size; j++) {
          if (areOpposite(xs[i], ys[i], xs[j], ys[j])) count++;
        }
      }
      return count;
    }

    /** There is such a line just if all marks lie less than half a turn to the left of one. */
    boolean fitsOneSide() {
      if (size == 0) return true;
      for (int i = 0; i < size; i++) {
        if (isRightmost(i)) return true;
      }
      return false;
    }

    private boolean isRightmost(int first) {
      for (int i = 0; i < size; i++) {
        int turn = cross(xs[first], ys[first], xs[i], ys[i]);
        if (turn < 0 || areOpposite(xs[first], ys[first], xs[i], ys[i])) return false;
      }
      return true;
    }

    long sumOfUnits() {
      long sum = 0L;
      for (int i = 0; i < size; i++) sum += Angles.units(angles[i]);
      return sum;
    }

    boolean agrees() {
      for (int i = 0; i < size; i++) {
        if (!agreesAlone(ys[i], xs[i])) return false;
        if (i > 0 && !agreesInOrder(angles[i - 1], angles[i])) return false;
      }
      return true;
    }

    private static boolean agreesAlone(int y, int x) {
      return Angles.agreesMirrored(y, x) && Angles.agreesReduced(y, x)
          && (x <= 0 || Angles.agreesWithQuotient(y, x));
    }

    /** In rising order all that are alike stand together, so neighbours tell of all. */
    private static boolean agreesInOrder(double ahead, double behind) {
      return behind >= ahead && (behind == ahead) == Angles.areAlike(behind, ahead);
    }

    long addTo(long start) {
      long running = start;
      for (int i = 0; i < size; i++) {
        running = 31L * running + numbers[i];
        running = 31L * running + Angles.units(angles[i]);
      }
      return running;
    }
  }

  /** The corners; side i goes from corner i to the next one. */
  private static final class Walk {
    private final int[] xs = new int[MOST_CORNERS];
    private final int[] ys = new int[MOST_CORNERS];
    /** The numbers of the corners that wrap() found last. */
    private final int[] polygon = new int[MOST_CORNERS];
    private int size = 0;

    int add(int x, int y) {
      xs[size] = x;
      ys[size] = y;
      size++;
      return size;
    }

    boolean move(int i, int x, int y) {
      boolean isOther = xs[i] != x || ys[i] != y;
      xs[i] = x;
      ys[i] = y;
      return isOther;
    }

    int removeLast() {
      size--;
      return size;
    }

    private int next(int i) {
      return i + 1 < size ? i + 1 : 0;
    }

    private int sideX(int i) {
      return xs[next(i)] - xs[i];
    }

    private int sideY(int i) {
      return ys[next(i)] - ys[i];
    }

    boolean holds(int x, int y) {
      for (int i = 0; i < size; i++) {
        if (isOnSide(i, x, y)) return true;
      }
      return false;
    }

    private boolean isOnSide(int i, int x, int y) {
      int j = next(i);
      return leftOfSide(i, x, y) == 0
          && x >= Math.min(xs[i], xs[j]) && x <= Math.max(xs[i], xs[j])
          && y >= Math.min(ys[i], ys[j]) && y <= Math.max(ys[i], ys[j]);
    }

    /** Above 0, if the point lies to the left of the side, 0, if it lies in its line. */
    private int leftOfSide(int i, int x, int y) {
      return cross(sideX(i), sideY(i), x - xs[i], y - ys[i]);
    }

    /** How often the walk crosses the ray to the right of the point upward, less downward. */
    int timesRound(int x, int y) {
      int times = 0;
      for (int i = 0; i < size; i++) {
        boolean startsAbove = ys[i] > y;
        boolean endsAbove = ys[next(i)] > y;
        if (!startsAbove && endsAbove && leftOfSide(i, x, y) > 0) times++;
        if (startsAbove && !endsAbove && leftOfSide(i, x, y) < 0) times--;
      }
      return times;
    }

    boolean hasTurns() {
      if (size < 3) return false;
      for (int i = 0; i < size; i++) {
        if (sideX(i) == 0 && sideY(i) == 0) return false;
        int j = next(i);
        if (areOpposite(sideX(i), sideY(i), sideX(j), sideY(j))) return false;
      }
      return true;
    }

    /** The sides put to one start: how often their ends, in order, go round that start. */
    int wholeTurns() {
      int turns = 0;
      for (int i = 0; i < size; i++) {
        int j = next(i);
        boolean startsAbove = sideY(i) > 0;
        boolean endsAbove = sideY(j) > 0;
        int left = cross(sideX(i), sideY(i), sideX(j), sideY(j));
        if (!startsAbove && endsAbove && left > 0) turns++;
        if (startsAbove && !endsAbove && left < 0) turns--;
      }
      return turns;
    }

    /** Finds the polygon and answers how many corners it has; 0, if all lies in one line. */
    int wrap() {
      if (isInOneLine()) return 0;
      int start = lowestCorner();
      int current = start;
      int found = 0;
      for (int step = 0; step < size; step++) {
        polygon[found] = current;
        found++;
        current = outermostFrom(current);
        if (current == start) return found;
      }
      return found;
    }

    private boolean isInOneLine() {
      int far = 0;
      for (int i = 1; i < size && far == 0; i++) {
        if (!isSamePoint(0, i)) far = i;
      }
      if (far == 0) return true;
      for (int i = 0; i < size; i++) {
        if (leftOfLine(0, far, i) != 0) return false;
      }
      return true;
    }

    private int lowestCorner() {
      int best = 0;
      for (int i = 1; i < size; i++) {
        if (ys[i] < ys[best] || ys[i] == ys[best] && xs[i] < xs[best]) best = i;
      }
      return best;
    }

    /** The corner that has all others to the left of the way there, the farthest of several. */
    private int outermostFrom(int from) {
      int best = from;
      for (int i = 0; i < size; i++) {
        if (isSamePoint(from, i)) continue;
        int left = leftOfLine(from, best, i);
        // only what is better takes the place, so the least number of a point stays
        if (best == from || left < 0 || left == 0 && isFarther(from, i, best)) best = i;
      }
      return best;
    }

    private boolean isSamePoint(int i, int j) {
      return xs[i] == xs[j] && ys[i] == ys[j];
    }

    private int leftOfLine(int from, int to, int i) {
      return cross(xs[to] - xs[from], ys[to] - ys[from], xs[i] - xs[from], ys[i] - ys[from]);
    }

    private boolean isFarther(int from, int i, int than) {
      return squareTo(from, i) > squareTo(from, than);
    }

    private int squareTo(int from, int i) {
      int x = xs[i] - xs[from];
      int y = ys[i] - ys[from];
      return x * x + y * y;
    }

    boolean agrees() {
      for (int x = -MOST_OF_A_LOOK; x <= MOST_OF_A_LOOK; x++) {
        for (int y = -MOST_OF_A_LOOK; y <= MOST_OF_A_LOOK; y++) {
          if (!holds(x, y) && !isNearWhole(turnsSeenFrom(x, y))) return false;
        }
      }
      return true;
    }

    /** The sum of the angles under which the sides are seen from a point off them, in turns. */
    private double turnsSeenFrom(int x, int y) {
      if (size == 0) return 0.0;
      double turn = 2.0 * Angles.halfTurn();
      double sum = 0.0;
      double first = Angles.bearing(ys[0] - y, xs[0] - x);
      double last = first;
      for (int i = 1; i <= size; i++) {
        double here = i < size ? Angles.bearing(ys[i] - y, xs[i] - x) : first;
        double seen = here - last;
        if (seen > Angles.halfTurn()) seen = seen - turn;
        if (seen < -Angles.halfTurn()) seen = seen + turn;
        sum = sum + seen;
        last = here;
      }
      return sum / turn;
    }

    private static boolean isNearWhole(double turns) {
      double nearest = (double) (long) (turns < 0.0 ? turns - 0.5 : turns + 0.5);
      double off = turns - nearest;
      return (off < 0.0 ? -off : off) <= 1.0 / 1024.0;
    }

    long addTo(long start) {
      long running = start;
      for (int i = 0; i < size; i++) {
        running = 31L * running + xs[i];
        running = 31L * running + ys[i];
      }
      return running;
    }
  }
}
