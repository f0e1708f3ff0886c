import java.lang.reflect.Field;
import java.lang.reflect.Method;

/**
 * Looks inside, where the face tells too little: all bits of each angle, and what isTrue() (promise
 * 26) would find if the theorem did not hold.
 */
public final class InsideTest {
  public static void main(String[] args) throws ReflectiveOperationException {
    allBits();
    alike();
    orderOfPlaces();
    brokenRose();
    brokenMarks();
    dividedPairs();
    turnsSeen();
    nearWhole();
    Check.end("InsideTest");
  }

  private static Method inside(String type, String name, Class<?>... types)
      throws ReflectiveOperationException {
    Method method = Class.forName("Bearingrose$" + type).getDeclaredMethod(name, types);
    method.setAccessible(true);
    return method;
  }

  private static Object field(Object object, String name) throws ReflectiveOperationException {
    Field field = object.getClass().getDeclaredField(name);
    field.setAccessible(true);
    return field.get(object);
  }

  private static void allBits() throws ReflectiveOperationException {
    Method bearing = inside("Angles", "bearing", int.class, int.class);
    Method atan = inside("Angles", "atan", double.class);
    Method bits = inside("Angles", "bits", double.class);
    for (int y = -127; y <= 128; y++) {
      for (int x = -127; x <= 128; x++) {
        if (Model.isNought(y) && Model.isNought(x)) continue;
        double angle = (double) bearing.invoke(null, y, x);
        long want = Double.doubleToRawLongBits(Model.angle(y, x));
        String pair = "(" + y + ", " + x + ")";
        Check.due("bearing" + pair, want, () -> Double.doubleToRawLongBits(angle));
        long told = (long) bits.invoke(null, angle);
        Check.due("bits" + pair, want, () -> told);
        if (Model.isNought(x)) continue;
        double quotient = Model.value(y) / Model.value(x);
        double steep = (double) atan.invoke(null, quotient);
        Check.due("atan" + pair, Double.doubleToRawLongBits(StrictMath.atan(quotient)),
            () -> Double.doubleToRawLongBits(steep));
      }
    }
  }

  private static void alike() throws ReflectiveOperationException {
    Method areAlike = inside("Angles", "areAlike", double.class, double.class);
    Check.holds("noughts of one sign", (boolean) areAlike.invoke(null, -0.0, -0.0));
    Check.holds("noughts of two signs", !(boolean) areAlike.invoke(null, 0.0, -0.0));
    Check.holds("numbers", (boolean) areAlike.invoke(null, -1.5, -1.5));
    Check.holds("other signs", !(boolean) areAlike.invoke(null, -1.5, 1.5));
    Check.holds("neighbours", !(boolean) areAlike.invoke(null, 1.5, Math.nextUp(1.5)));
  }

  private static void orderOfPlaces() throws ReflectiveOperationException {
    Method agrees = inside("Rose", "agreesInOrder", double.class, double.class);
    Check.holds("rising", (boolean) agrees.invoke(null, 1.0, 2.0));
    Check.holds("alike", (boolean) agrees.invoke(null, 1.0, 1.0));
    Check.holds("falling", !(boolean) agrees.invoke(null, 2.0, 1.0));
    Check.holds("alike but for bits", !(boolean) agrees.invoke(null, 0.0, -0.0));
  }

  /** Angles that are not in order can only be put there from outside. */
  private static void brokenRose() throws ReflectiveOperationException {
    for (int broken = 1; broken < 4; broken++) {
      Bearingrose r = new Bearingrose();
      for (int i = 0; i < 4; i++) r.mark(i, 7);
      double[] angles = (double[]) field(field(r, "rose"), "angles");
      angles[broken] = -1.0;
      Check.due("isTrue with a wrong angle at " + broken, false, r::isTrue);
    }
  }

  /** Numbers that mark() refuses: the class takes their mirror or their part for a nought. */
  private static void brokenMarks() throws ReflectiveOperationException {
    int[][] wrong = {{-128, 5}, {256, 2}, {5, 128}};
    String[] names = {"not mirrored", "not reduced", "not a quotient's"};
    for (int kind = 0; kind < 3; kind++) {
      for (int place = 0; place < 3; place++) {
        Bearingrose r = new Bearingrose();
        for (int i = 0; i < 3; i++) r.mark(i, 7);
        Check.due("isTrue of good marks", true, r::isTrue);
        Object rose = field(r, "rose");
        ((int[]) field(rose, "ys"))[place] = wrong[kind][0];
        ((int[]) field(rose, "xs"))[place] = wrong[kind][1];
        Check.due("isTrue, mark " + place + " " + names[kind], false, r::isTrue);
      }
    }
  }

  private static void dividedPairs() throws ReflectiveOperationException {
    Method divisor = inside("Angles", "commonDivisor", int.class, int.class);
    Method divided = inside("Angles", "divided", int.class, int.class);
    for (int y = -127; y <= 128; y++) {
      for (int x = -127; x <= 128; x++) {
        if (Model.isNought(y) && Model.isNought(x)) continue;
        int found = (int) divisor.invoke(null, y, x);
        int up = (int) divided.invoke(null, y, found);
        int right = (int) divided.invoke(null, x, found);
        String pair = "(" + y + ", " + x + ") by " + found + " is (" + up + ", " + right + ")";
        Check.holds(pair + ", a nought stays as it is",
            Model.isNought(y) ? up == y : Model.isNought(x) ? right == x : true);
        Check.holds(pair + ", the other number becomes 1 or -1",
            Model.isNought(y) ? Math.abs(right) == 1 : Model.isNought(x) ? Math.abs(up) == 1 : true);
        if (Model.isNought(y) || Model.isNought(x)) continue;
        Check.holds(pair + ", one direction", up * found == y && right * found == x && found > 0);
        Check.due(pair + ", divided as far as may be", 1,
            () -> java.math.BigInteger.valueOf(up).gcd(java.math.BigInteger.valueOf(right)).intValue());
      }
    }
  }

  private static void turnsSeen() throws ReflectiveOperationException {
    Method seen = inside("Walk", "turnsSeenFrom", int.class, int.class);
    for (int run = 0; run < 400; run++) {
      java.util.Random random = new java.util.Random(run);
      Bearingrose r = new Bearingrose();
      int corners = run % 17;
      int far = run % 3 == 0 ? 63 : 4;
      for (int i = 0; i < corners; i++) {
        r.corner(random.nextInt(2 * far + 1) - far, random.nextInt(2 * far + 1) - far);
      }
      Object walk = field(r, "walk");
      for (int x = -2; x <= 2; x++) {
        for (int y = -2; y <= 2; y++) {
          if (r.isOn(x, y)) continue;
          double turns = (double) seen.invoke(walk, x, y);
          int winding = r.winding(x, y);
          Check.holds("run " + run + ": turns seen from (" + x + ", " + y + ")",
              Math.abs(turns - winding) < 1e-9);
        }
      }
    }
  }

  private static void nearWhole() throws ReflectiveOperationException {
    Method isNearWhole = inside("Walk", "isNearWhole", double.class);
    double edge = 1.0 / 1024;
    for (int whole = -3; whole <= 3; whole++) {
      for (double off : new double[] {-edge, -edge / 2, 0, edge / 2, edge}) {
        Check.holds(whole + off + " is near", (boolean) isNearWhole.invoke(null, whole + off));
      }
      for (double off : new double[] {-0.5, -0.25, -edge - 1e-9, edge + 1e-9, 0.25, 0.5}) {
        Check.holds(whole + off + " is not near", !(boolean) isNearWhole.invoke(null, whole + off));
      }
    }
  }
}
