import java.util.ArrayList;
import java.util.List;

/** The sentences of 'Pairs' and of promises 2 to 9 that name a boundary case, a test for each. */
public final class PairEdgesTest {
  /** A call of the face that is asked of one pair. */
  interface PairCall {
    Object of(Bearingrose r, int y, int x);
  }

  private static final int[] NOUGHTS = {0, 128};
  private static final int[] TOO_SMALL = {-128, -129, -256, Integer.MIN_VALUE, Integer.MIN_VALUE + 127};
  private static final int[] TOO_LARGE = {129, 130, 255, 256, 384, Integer.MAX_VALUE};
  private static final long HALF_TURN = 0x400921FB54442D18L;
  private static final long RIGHT_ANGLE = 0x3FF921FB54442D18L;
  private static final long SIGN = Long.MIN_VALUE;

  public static void main(String[] args) {
    refusals("2 angle", (r, y, x) -> r.angle(y, x));
    refusals("3 floatBits", (r, y, x) -> r.floatBits(y, x));
    refusals("4 axisBits", (r, y, x) -> r.axisBits(y, x));
    refusals("5 quarter", (r, y, x) -> r.quarter(y, x));
    refusals("6 order, first pair", (r, y, x) -> r.order(y, x, 1, 1));
    refusals("6 order, second pair", (r, y, x) -> r.order(1, 1, y, x));
    refusals("7 isMirrored", (r, y, x) -> r.isMirrored(y, x));
    refusals("8 isQuotient", (r, y, x) -> r.isQuotient(y, x));
    refusals("9 isReduced", (r, y, x) -> r.isReduced(y, x));
    lastNumbers();
    noughts();
    turningSense();
    alongAnAxis();
    roundedDown();
    nearestFloat();
    axisBits();
    quarters();
    orderOfEnds();
    orderOfAllDirections();
    mirrored();
    quotient();
    reduced();
    Check.end("PairEdgesTest");
  }

  private static void refused(String call, PairCall asked, int y, int x) {
    Check.due(call + "(" + y + ", " + x + ")", Check.BAD, () -> asked.of(new Bearingrose(), y, x));
  }

  private static void refusals(String promise, PairCall call) {
    Check.sentence(promise + ": throws if a number is out of range, too small");
    for (int bad : TOO_SMALL) refusedBeside(promise, call, bad);
    Check.sentence(promise + ": throws if a number is out of range, too large");
    for (int bad : TOO_LARGE) refusedBeside(promise, call, bad);
    Check.sentence(promise + ": throws if both are noughts");
    for (int y : NOUGHTS) {
      for (int x : NOUGHTS) refused(promise, call, y, x);
    }
  }

  private static void refusedBeside(String promise, PairCall call, int bad) {
    for (int good : new int[] {-127, -1, 0, 1, 127, 128}) {
      refused(promise, call, bad, good);
      refused(promise, call, good, bad);
    }
    refused(promise, call, bad, bad);
  }

  /** The last numbers of the range, each of them in each place, are no wrong ones. */
  private static void lastNumbers() {
    Check.sentence("Pairs: each from -127 to 127; 128 stands for the nought below");
    int[] edges = {-127, -126, -1, 0, 1, 126, 127, 128};
    for (int y : edges) {
      for (int x : edges) {
        if (Model.isNought(y) && Model.isNought(x)) continue;
        Bearingrose r = new Bearingrose();
        String pair = "(" + y + ", " + x + ")";
        double angle = Model.angle(y, x);
        Check.due("angle" + pair, Model.units(angle), () -> r.angle(y, x));
        Check.due("floatBits" + pair, Float.floatToIntBits((float) angle), () -> r.floatBits(y, x));
        Check.due("order to itself" + pair, 0, () -> r.order(y, x, y, x));
        Check.due("isMirrored" + pair, true, () -> r.isMirrored(y, x));
        Check.due("isReduced" + pair, true, () -> r.isReduced(y, x));
        Check.due("quarter" + pair, quarter(angle), () -> r.quarter(y, x));
      }
    }
  }

  private static int quarter(double angle) {
    if (angle == Math.PI || angle < -Math.PI / 2) return 2;
    if (angle < 0) return 3;
    return angle < Math.PI / 2 ? 0 : 1;
  }

  private static void noughts() {
    Bearingrose r = new Bearingrose();
    Check.sentence("Pairs: 128 stands for the nought below, and 0 for 0.0");
    Check.due("of y, 0", 0L, () -> r.axisBits(0, 1));
    Check.due("of y, 128", SIGN, () -> r.axisBits(128, 1));
    Check.due("of x, 0", RIGHT_ANGLE, () -> r.axisBits(1, 0));
    Check.due("of x, 128", RIGHT_ANGLE, () -> r.axisBits(1, 128));
    Check.sentence("Pairs: all others are what they are, 127 and -127 too");
    Check.due("127", Model.units(StrictMath.atan2(127.0, 1.0)), () -> r.angle(127, 1));
    Check.due("-127", Model.units(StrictMath.atan2(-127.0, -127.0)), () -> r.angle(-127, -127));
  }

  private static void turningSense() {
    Bearingrose r = new Bearingrose();
    Check.sentence("Pairs: 0 points along x, and y above 0 lies anticlockwise");
    Check.due("along x", 0L, () -> r.angle(0, 127));
    Check.due("the least y above 0", 1, () -> r.order(1, 127, 0, 127));
    Check.due("the least y below 0", -1, () -> r.order(-1, 127, 128, 127));
    Check.sentence("Pairs: from half a turn below to half a turn, in radians");
    Check.due("half a turn", 3294198L, () -> r.angle(0, -1));
    Check.due("half a turn below", -3294199L, () -> r.angle(128, -1));
    Check.due("one step short of half a turn", Model.units(StrictMath.atan2(1.0, -127.0)),
        () -> r.angle(1, -127));
  }

  private static void alongAnAxis() {
    for (int n = 1; n <= 127; n++) {
      int number = n;
      Bearingrose r = new Bearingrose();
      Check.sentence("Pairs: of a nought y and x above 0 the nought of y's sign");
      Check.due("(0, " + n + ")", 0L, () -> r.axisBits(0, number));
      Check.due("(128, " + n + ")", SIGN, () -> r.axisBits(128, number));
      Check.sentence("Pairs: of a nought y and x below 0 the double nearest to pi, with y's sign");
      Check.due("(0, -" + n + ")", HALF_TURN, () -> r.axisBits(0, -number));
      Check.due("(128, -" + n + ")", HALF_TURN | SIGN, () -> r.axisBits(128, -number));
      Check.sentence("Pairs: of a nought x, of either sign, the double nearest to half of pi, with y's sign");
      Check.due("(" + n + ", 0)", RIGHT_ANGLE, () -> r.axisBits(number, 0));
      Check.due("(" + n + ", 128)", RIGHT_ANGLE, () -> r.axisBits(number, 128));
      Check.due("(-" + n + ", 0)", RIGHT_ANGLE | SIGN, () -> r.axisBits(-number, 0));
      Check.due("(-" + n + ", 128)", RIGHT_ANGLE | SIGN, () -> r.axisBits(-number, 128));
    }
  }

  private static void roundedDown() {
    Bearingrose r = new Bearingrose();
    Check.sentence("2 angle: the greatest whole number not above");
    Check.due("a nought", 0L, () -> r.angle(0, 5));
    Check.due("a nought below", 0L, () -> r.angle(128, 5));
    Check.due("above 0", 8256L, () -> r.angle(1, 127));
    Check.due("below 0", -8257L, () -> r.angle(-1, 127));
    Check.due("a right angle", 1647099L, () -> r.angle(7, 128));
    Check.due("a right angle below", -1647100L, () -> r.angle(-7, 0));
    for (int n = 1; n <= 127; n++) {
      int y = n;
      Check.due("floors of (" + n + ", 31) and its mirror", -1L, () -> r.angle(y, 31) + r.angle(-y, 31));
    }
  }

  private static void nearestFloat() {
    Check.sentence("3 floatBits: a nought keeps its sign");
    Bearingrose r = new Bearingrose();
    Check.due("0", 0, () -> r.floatBits(0, 127));
    Check.due("128", Integer.MIN_VALUE, () -> r.floatBits(128, 127));
    Check.sentence("3 floatBits: the float that lies nearest");
    Check.due("half a turn", 0x40490FDB, () -> r.floatBits(0, -127));
    Check.due("half a turn below", 0xC0490FDB, () -> r.floatBits(128, -127));
    Check.due("a right angle", 0x3FC90FDB, () -> r.floatBits(1, 128));
    Check.due("a right angle below", 0xBFC90FDB, () -> r.floatBits(-1, 0));
    for (int y = 1; y <= 127; y++) nearestFloats(y);
  }

  private static void nearestFloats(int y) {
    Bearingrose r = new Bearingrose();
    for (int x = -127; x <= 127; x++) {
      int other = x;
      Check.due("(" + y + ", " + x + ")", Float.floatToIntBits((float) StrictMath.atan2(y, x)),
          () -> r.floatBits(y, other));
    }
  }

  private static void axisBits() {
    Bearingrose r = new Bearingrose();
    Check.sentence("4 axisBits: throws IllegalStateException if neither is a nought");
    for (int y : new int[] {-127, -1, 1, 127}) {
      for (int x : new int[] {-127, -1, 1, 127}) {
        Check.due("(" + y + ", " + x + ")", Check.STATE, () -> r.axisBits(y, x));
      }
    }
    Check.sentence("4 axisBits: a number out of range goes ahead of neither being a nought");
    Check.due("(129, 1)", Check.BAD, () -> r.axisBits(129, 1));
    Check.due("(1, -128)", Check.BAD, () -> r.axisBits(1, -128));
  }

  private static void quarterIs(int want, int y, int x) {
    Check.due("quarter(" + y + ", " + x + ")", want, () -> new Bearingrose().quarter(y, x));
  }

  private static void quarters() {
    Check.sentence("5 quarter: 0 from a nought of either sign to below a right angle");
    quarterIs(0, 0, 1);
    quarterIs(0, 0, 127);
    quarterIs(0, 128, 1);
    quarterIs(0, 128, 127);
    quarterIs(0, 1, 127);
    quarterIs(0, 127, 1);
    Check.sentence("5 quarter: 1 from there to below half a turn");
    quarterIs(1, 1, 0);
    quarterIs(1, 127, 128);
    quarterIs(1, 127, -1);
    quarterIs(1, 1, -127);
    Check.sentence("5 quarter: 2 half a turn of either sign");
    quarterIs(2, 0, -1);
    quarterIs(2, 0, -127);
    quarterIs(2, 128, -1);
    quarterIs(2, 128, -127);
    Check.sentence("5 quarter: and from there to below the right angle below");
    quarterIs(2, -1, -127);
    quarterIs(2, -127, -1);
    Check.sentence("5 quarter: 3 from that one to below the noughts");
    quarterIs(3, -1, 0);
    quarterIs(3, -127, 128);
    quarterIs(3, -127, 1);
    quarterIs(3, -1, 127);
  }

  private static void orderOfEnds() {
    Bearingrose r = new Bearingrose();
    Check.sentence("6 order: both noughts are alike");
    Check.due("0 and 128", 0, () -> r.order(0, 1, 128, 1));
    Check.due("128 and 0", 0, () -> r.order(128, 127, 0, 1));
    Check.sentence("6 order: 0, if they are alike");
    Check.due("half a turn", 0, () -> r.order(0, -1, 0, -127));
    Check.due("half a turn below", 0, () -> r.order(128, -127, 128, -1));
    Check.due("a right angle with either nought", 0, () -> r.order(1, 0, 127, 128));
    Check.due("one direction", 0, () -> r.order(-63, 42, -3, 2));
    Check.sentence("6 order: half a turn below is less, half a turn greater than all others");
    for (int y = -127; y <= 128; y++) {
      for (int x = -127; x <= 128; x++) {
        if (!Model.isNought(y) || !Model.isNought(x) && x > 0) againstHalfTurns(y, x);
      }
    }
    Check.due("half a turn below", -1, () -> r.order(128, -1, 0, -1));
    Check.due("half a turn", 1, () -> r.order(0, -1, 128, -1));
    Check.sentence("6 order: throws if a number is out of range, or both of a pair are noughts");
    Check.due("both pairs", Check.BAD, () -> r.order(0, 0, 128, 128));
    Check.due("the noughts of two pairs", -1, () -> r.order(0, 1, 1, 0));
    Check.due("the noughts of two pairs, back", 1, () -> r.order(1, 128, 128, 1));
  }

  private static void againstHalfTurns(int y, int x) {
    Bearingrose r = new Bearingrose();
    String pair = "(" + y + ", " + x + ")";
    Check.due("below to " + pair, -1, () -> r.order(128, -1, y, x));
    Check.due(pair + " to below", 1, () -> r.order(y, x, 128, -1));
    Check.due("above to " + pair, 1, () -> r.order(0, -1, y, x));
    Check.due(pair + " to above", -1, () -> r.order(y, x, 0, -1));
  }

  /** All directions in their order by whole numbers alone, each against the next one. */
  private static void orderOfAllDirections() {
    Check.sentence("Theorem: alike just for pairs of one direction, else in the order of directions");
    List<int[]> upper = new ArrayList<>();
    for (int y = 1; y <= 127; y++) {
      for (int x = -127; x <= 127; x++) upper.add(new int[] {y, x});
    }
    upper.sort((a, b) -> -Integer.signum(cross(a, b)));
    for (int i = 1; i < upper.size(); i++) {
      int[] a = upper.get(i - 1);
      int[] b = upper.get(i);
      int want = -Integer.signum(cross(a, b));
      String pairs = "(" + a[0] + ", " + a[1] + ") to (" + b[0] + ", " + b[1] + ")";
      Bearingrose r = new Bearingrose();
      Check.due("upper " + pairs, want, () -> r.order(a[0], a[1], b[0], b[1]));
      Check.due("lower " + pairs, -want, () -> r.order(-a[0], a[1], -b[0], b[1]));
    }
  }

  private static int cross(int[] a, int[] b) {
    return a[1] * b[0] - a[0] * b[1];
  }

  private static void mirrored() {
    Bearingrose r = new Bearingrose();
    Check.sentence("7 isMirrored: the nought of the other sign takes the place of a nought");
    for (int x : new int[] {-127, -1, 1, 127}) {
      Check.due("(0, " + x + ")", true, () -> r.isMirrored(0, x));
      Check.due("(128, " + x + ")", true, () -> r.isMirrored(128, x));
    }
    Check.sentence("7 isMirrored: (-y, x) for the last y");
    for (int x : new int[] {-127, 0, 127, 128}) {
      Check.due("(127, " + x + ")", true, () -> r.isMirrored(127, x));
      Check.due("(-127, " + x + ")", true, () -> r.isMirrored(-127, x));
    }
  }

  private static void quotient() {
    Bearingrose r = new Bearingrose();
    Check.sentence("8 isQuotient: throws IllegalStateException if x is not above 0");
    for (int y : new int[] {-127, -1, 1, 127}) {
      Check.due("x 0", Check.STATE, () -> r.isQuotient(y, 0));
      Check.due("x 128", Check.STATE, () -> r.isQuotient(y, 128));
    }
    for (int y : new int[] {-127, 0, 127, 128}) {
      Check.due("x -1", Check.STATE, () -> r.isQuotient(y, -1));
      Check.due("x -127", Check.STATE, () -> r.isQuotient(y, -127));
    }
    Check.sentence("8 isQuotient: x just above 0");
    for (int y : new int[] {-127, -1, 0, 1, 127, 128}) {
      Check.due("(" + y + ", 1)", true, () -> r.isQuotient(y, 1));
      Check.due("(" + y + ", 127)", true, () -> r.isQuotient(y, 127));
    }
    Check.sentence("8 isQuotient: out of range, or two noughts, goes ahead of x not above 0");
    Check.due("(129, -1)", Check.BAD, () -> r.isQuotient(129, -1));
    Check.due("(1, -128)", Check.BAD, () -> r.isQuotient(1, -128));
    Check.due("(0, 128)", Check.BAD, () -> r.isQuotient(0, 128));
    Check.due("(128, 0)", Check.BAD, () -> r.isQuotient(128, 0));
  }

  private static void reduced() {
    Bearingrose r = new Bearingrose();
    Check.sentence("9 isReduced: a nought stays as it is, and the other number becomes 1 or -1");
    for (int n : new int[] {-127, -126, -1, 1, 126, 127}) {
      for (int nought : NOUGHTS) {
        Check.due("nought y", true, () -> r.isReduced(nought, n));
        Check.due("nought x", true, () -> r.isReduced(n, nought));
      }
    }
    Check.sentence("9 isReduced: divided by their greatest common divisor");
    for (int[] pair : new int[][] {{127, 127}, {-127, 127}, {126, -84}, {-64, -96}, {127, 126}, {1, -127}}) {
      Check.due("(" + pair[0] + ", " + pair[1] + ")", true, () -> r.isReduced(pair[0], pair[1]));
    }
  }
}
