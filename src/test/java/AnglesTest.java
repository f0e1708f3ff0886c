import java.util.Random;

/** Promises 2 to 9: every pair against StrictMath, and the answers that the document writes out. */
public final class AnglesTest {
  private static final Bearingrose ROSE = new Bearingrose();
  private static final int[] OUTSIDE = {
    -129, -128, 129, 130, 255, 256, -1000, 1 << 20, Integer.MIN_VALUE, Integer.MAX_VALUE
  };

  public static void main(String[] args) {
    writtenOut();
    everyPair();
    outside();
    orders();
    Check.end("AnglesTest");
  }

  private static void writtenOut() {
    Check.due("angle(1, 1)", 823549L, () -> ROSE.angle(1, 1));
    Check.due("angle(1, 0)", 1647099L, () -> ROSE.angle(1, 0));
    Check.due("angle(-1, 128)", -1647100L, () -> ROSE.angle(-1, 128));
    Check.due("angle(0, -127)", 3294198L, () -> ROSE.angle(0, -127));
    Check.due("angle(128, -127)", -3294199L, () -> ROSE.angle(128, -127));
    Check.due("angle(128, 1)", 0L, () -> ROSE.angle(128, 1));
    Check.due("floatBits(0, 1)", 0, () -> ROSE.floatBits(0, 1));
    Check.due("floatBits(128, 1)", Integer.MIN_VALUE, () -> ROSE.floatBits(128, 1));
    Check.due("floatBits(1, 1)", 0x3F490FDB, () -> ROSE.floatBits(1, 1));
    Check.due("floatBits(0, -1)", 0x40490FDB, () -> ROSE.floatBits(0, -1));
    Check.due("floatBits(128, -1)", 0xC0490FDB, () -> ROSE.floatBits(128, -1));
    Check.due("axisBits(0, 3)", 0L, () -> ROSE.axisBits(0, 3));
    Check.due("axisBits(128, 3)", Long.MIN_VALUE, () -> ROSE.axisBits(128, 3));
    Check.due("axisBits(0, -3)", 0x400921FB54442D18L, () -> ROSE.axisBits(0, -3));
    Check.due("axisBits(128, -3)", 0xC00921FB54442D18L, () -> ROSE.axisBits(128, -3));
    Check.due("axisBits(127, 0)", 0x3FF921FB54442D18L, () -> ROSE.axisBits(127, 0));
    Check.due("axisBits(-127, 128)", 0xBFF921FB54442D18L, () -> ROSE.axisBits(-127, 128));
    Check.due("axisBits(1, 1)", Check.STATE, () -> ROSE.axisBits(1, 1));
    Check.due("axisBits(127, -127)", Check.STATE, () -> ROSE.axisBits(127, -127));
    Check.due("isQuotient(1, 0)", Check.STATE, () -> ROSE.isQuotient(1, 0));
    Check.due("isQuotient(1, 128)", Check.STATE, () -> ROSE.isQuotient(1, 128));
    Check.due("isQuotient(1, -1)", Check.STATE, () -> ROSE.isQuotient(1, -1));
    Check.due("quarter(0, 1)", 0, () -> ROSE.quarter(0, 1));
    Check.due("quarter(128, 1)", 0, () -> ROSE.quarter(128, 1));
    Check.due("quarter(1, 0)", 1, () -> ROSE.quarter(1, 0));
    Check.due("quarter(1, 128)", 1, () -> ROSE.quarter(1, 128));
    Check.due("quarter(0, -1)", 2, () -> ROSE.quarter(0, -1));
    Check.due("quarter(128, -1)", 2, () -> ROSE.quarter(128, -1));
    Check.due("quarter(-1, 0)", 3, () -> ROSE.quarter(-1, 0));
    Check.due("quarter(-1, 128)", 3, () -> ROSE.quarter(-1, 128));
  }

  private static void everyPair() {
    for (int y = -127; y <= 128; y++) {
      for (int x = -127; x <= 128; x++) onePair(y, x);
    }
  }

  private static void onePair(int y, int x) {
    String pair = "(" + y + ", " + x + ")";
    boolean isBad = Model.isNought(y) && Model.isNought(x);
    double angle = Model.angle(y, x);
    boolean isAxis = Model.isNought(y) || Model.isNought(x);
    boolean isRight = Model.value(x) > 0;
    Check.due("angle" + pair, isBad ? Check.BAD : Model.units(angle), () -> ROSE.angle(y, x));
    Check.due("floatBits" + pair, isBad ? Check.BAD : Float.floatToIntBits((float) angle),
        () -> ROSE.floatBits(y, x));
    Check.due("axisBits" + pair,
        isBad ? Check.BAD : isAxis ? Double.doubleToLongBits(angle) : Check.STATE,
        () -> ROSE.axisBits(y, x));
    Check.due("quarter" + pair, isBad ? Check.BAD : quarter(angle), () -> ROSE.quarter(y, x));
    Check.due("isMirrored" + pair, isBad ? Check.BAD : true, () -> ROSE.isMirrored(y, x));
    Check.due("isQuotient" + pair, isBad ? Check.BAD : isRight ? true : Check.STATE,
        () -> ROSE.isQuotient(y, x));
    Check.due("isReduced" + pair, isBad ? Check.BAD : true, () -> ROSE.isReduced(y, x));
    Check.due("order" + pair + " to (1, 1)", isBad ? Check.BAD : compare(angle, Math.PI / 4),
        () -> ROSE.order(y, x, 1, 1));
    Check.due("order (1, 1) to " + pair, isBad ? Check.BAD : compare(Math.PI / 4, angle),
        () -> ROSE.order(1, 1, y, x));
  }

  private static int quarter(double angle) {
    if (angle == Math.PI || angle < -Math.PI / 2) return 2;
    if (angle >= 0) return angle < Math.PI / 2 ? 0 : 1;
    return 3;
  }

  private static int compare(double a, double b) {
    return a < b ? -1 : a > b ? 1 : 0;
  }

  private static void outside() {
    for (int bad : OUTSIDE) {
      for (int good : new int[] {-127, 0, 1, 127, 128}) {
        outsidePair(bad, good);
        outsidePair(good, bad);
      }
      outsidePair(bad, bad);
    }
  }

  private static void outsidePair(int y, int x) {
    String pair = "(" + y + ", " + x + ")";
    Check.due("angle" + pair, Check.BAD, () -> ROSE.angle(y, x));
    Check.due("floatBits" + pair, Check.BAD, () -> ROSE.floatBits(y, x));
    Check.due("axisBits" + pair, Check.BAD, () -> ROSE.axisBits(y, x));
    Check.due("quarter" + pair, Check.BAD, () -> ROSE.quarter(y, x));
    Check.due("isMirrored" + pair, Check.BAD, () -> ROSE.isMirrored(y, x));
    Check.due("isQuotient" + pair, Check.BAD, () -> ROSE.isQuotient(y, x));
    Check.due("isReduced" + pair, Check.BAD, () -> ROSE.isReduced(y, x));
    Check.due("order" + pair + " first", Check.BAD, () -> ROSE.order(y, x, 1, 1));
    Check.due("order" + pair + " second", Check.BAD, () -> ROSE.order(1, 1, y, x));
  }

  private static void orders() {
    Check.due("order of noughts", 0, () -> ROSE.order(0, 1, 128, 127));
    Check.due("order of half turns", 1, () -> ROSE.order(0, -1, 128, -1));
    Check.due("order of half turns back", -1, () -> ROSE.order(128, -1, 0, -1));
    Check.due("order (2, 4, 1, 2)", 0, () -> ROSE.order(2, 4, 1, 2));
    Check.due("order (126, 127, 125, 126)", 1, () -> ROSE.order(126, 127, 125, 126));
    Check.due("order (125, 126, 126, 127)", -1, () -> ROSE.order(125, 126, 126, 127));
    Random random = new Random(7);
    for (int i = 0; i < 400_000; i++) {
      int y = random.nextInt(256) - 127;
      int x = random.nextInt(256) - 127;
      int v = i % 2 == 0 ? random.nextInt(256) - 127 : y / 2;
      int u = i % 2 == 0 ? random.nextInt(256) - 127 : x / 2;
      boolean isBad = Model.isNought(y) && Model.isNought(x) || Model.isNought(v) && Model.isNought(u);
      Check.due("order(" + y + ", " + x + ", " + v + ", " + u + ")",
          isBad ? Check.BAD : compare(Model.angle(y, x), Model.angle(v, u)),
          () -> ROSE.order(y, x, v, u));
    }
  }
}
