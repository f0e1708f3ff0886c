import java.util.List;
import java.util.Random;

/** Runs of 512 calls with any arguments, right and wrong, against the model (promises 1 to 27). */
public final class RandomRunsTest {
  private static final int RUNS = 1500;
  private static final int CALLS = 512;

  private final Random random;
  private final int reach;
  private final Bearingrose rose = new Bearingrose();
  private final Model model = new Model();
  private final String run;

  private RandomRunsTest(int run) {
    this.random = new Random(run);
    this.reach = new int[] {2, 4, 9, 63}[run % 4];
    this.run = "run " + run + ", ";
  }

  public static void main(String[] args) {
    for (int run = 0; run < RUNS; run++) new RandomRunsTest(run).go();
    Check.end("RandomRunsTest");
  }

  private void go() {
    // every change is followed by one checksum, so that a call that throws is seen to change nothing
    for (int i = 0; i < CALLS / 2; i++) {
      if (random.nextInt(3) == 0) change();
      else ask();
      Check.due(run + i + " checksum", model.checksum(), rose::checksum);
    }
  }

  private int number(int most) {
    int far = random.nextInt(12) == 0 ? most + 3 : Math.min(most, reach);
    return random.nextInt(2 * far + 1) - far;
  }

  private boolean isMark(int y, int x) {
    return Math.abs(y) <= 127 && Math.abs(x) <= 127 && (y != 0 || x != 0);
  }

  private boolean isPoint(int x, int y) {
    return Math.abs(x) <= 63 && Math.abs(y) <= 63;
  }

  private void change() {
    int kind = random.nextInt(10);
    if (kind < 4) mark();
    else if (kind == 4) take();
    else if (kind < 8) corner();
    else if (kind == 8) shift();
    else drop();
  }

  private void mark() {
    int y = number(127);
    int x = number(127);
    Object want = !isMark(y, x) ? Check.BAD : model.marks.size() == 24 ? Check.STATE : model.mark(y, x);
    Check.due(run + "mark(" + y + ", " + x + ")", want, () -> rose.mark(y, x));
  }

  private void take() {
    int place = random.nextInt(model.marks.size() + 2) - 1;
    boolean isThere = place >= 0 && place < model.marks.size();
    Object want = isThere ? model.marks.remove(place)[0] : Check.INDEX;
    Check.due(run + "take(" + place + ")", want, () -> rose.take(place));
  }

  private void corner() {
    int x = number(63);
    int y = number(63);
    Object want;
    if (!isPoint(x, y)) {
      want = Check.BAD;
    } else if (model.corners.size() == 16) {
      want = Check.STATE;
    } else {
      model.corners.add(new int[] {x, y});
      want = model.corners.size();
    }
    Check.due(run + "corner(" + x + ", " + y + ")", want, () -> rose.corner(x, y));
  }

  private void shift() {
    int corner = random.nextInt(model.corners.size() + 2) - 1;
    int x = number(63);
    int y = number(63);
    Object want;
    if (corner < 0 || corner >= model.corners.size()) {
      want = Check.INDEX;
    } else if (!isPoint(x, y)) {
      want = Check.BAD;
    } else {
      int[] before = model.corners.set(corner, new int[] {x, y});
      want = before[0] != x || before[1] != y;
    }
    Check.due(run + "shift(" + corner + ", " + x + ", " + y + ")", want, () -> rose.shift(corner, x, y));
  }

  private void drop() {
    int size = model.corners.size();
    if (size > 0) model.corners.remove(size - 1);
    Check.due(run + "drop()", size > 0 ? size - 1 : Check.NONE, rose::drop);
  }

  private void ask() {
    switch (random.nextInt(13)) {
      case 0: askPlace(); break;
      case 1: Check.due(run + "marks()", model.marks.size(), rose::marks); break;
      case 2: askSector(); break;
      case 3: Check.due(run + "opposites()", model.opposites(), rose::opposites); break;
      case 4: Check.due(run + "isOneSided()", model.isOneSided(), rose::isOneSided); break;
      case 5: Check.due(run + "sum()", model.sum(), rose::sum); break;
      case 6: askPoint(); break;
      case 7: Check.due(run + "turning()", orState(model.turning()), rose::turning); break;
      case 8: askHull(); break;
      case 9: askHullCorner(); break;
      case 10: askPair(); break;
      case 11: askOrder(); break;
      default: Check.due(run + "isTrue()", true, rose::isTrue); break;
    }
  }

  /** Numbers of pairs, noughts of both signs and wrong ones among them. */
  private int numberOfPair() {
    int kind = random.nextInt(8);
    return kind == 0 ? 0 : kind == 1 ? 128 : kind == 2 ? random.nextInt(600) - 300 : number(127);
  }

  private static boolean isPair(int y, int x) {
    boolean isInRange = y >= -127 && y <= 128 && x >= -127 && x <= 128;
    return isInRange && !(Model.isNought(y) && Model.isNought(x));
  }

  private void askPair() {
    int y = numberOfPair();
    int x = numberOfPair();
    String pair = "(" + y + ", " + x + ")";
    boolean isPair = isPair(y, x);
    double angle = isPair ? Model.angle(y, x) : 0;
    boolean isAxis = Model.isNought(y) || Model.isNought(x);
    Object axis = isAxis ? Double.doubleToLongBits(angle) : Check.STATE;
    Object quotient = Model.value(x) > 0 ? true : Check.STATE;
    int single = Float.floatToIntBits((float) angle);
    switch (random.nextInt(7)) {
      case 0: asked("angle" + pair, isPair, Model.units(angle), () -> rose.angle(y, x)); break;
      case 1: asked("floatBits" + pair, isPair, single, () -> rose.floatBits(y, x)); break;
      case 2: asked("axisBits" + pair, isPair, axis, () -> rose.axisBits(y, x)); break;
      case 3: asked("quarter" + pair, isPair, quarter(angle), () -> rose.quarter(y, x)); break;
      case 4: asked("isMirrored" + pair, isPair, true, () -> rose.isMirrored(y, x)); break;
      case 5: asked("isQuotient" + pair, isPair, quotient, () -> rose.isQuotient(y, x)); break;
      default: asked("isReduced" + pair, isPair, true, () -> rose.isReduced(y, x)); break;
    }
  }

  private void askOrder() {
    int y = numberOfPair();
    int x = numberOfPair();
    int v = numberOfPair();
    int u = numberOfPair();
    boolean arePairs = isPair(y, x) && isPair(v, u);
    // a nought added takes the sign from a nought, so that both are one
    int want = arePairs ? Double.compare(Model.angle(y, x) + 0.0, Model.angle(v, u) + 0.0) : 0;
    asked("order(" + y + ", " + x + ", " + v + ", " + u + ")", arePairs, want, () -> rose.order(y, x, v, u));
  }

  private static int quarter(double angle) {
    return angle >= 0 ? (int) (angle / (Math.PI / 2)) : angle < -Math.PI / 2 ? 2 : 3;
  }

  private void asked(String call, boolean isPair, Object want, Check.Call asked) {
    Check.due(run + call, isPair ? want : Check.BAD, asked);
  }

  private static Object orState(Object answer) {
    return answer == null ? Check.STATE : answer;
  }

  private void askPlace() {
    int place = random.nextInt(model.marks.size() + 2) - 1;
    boolean isThere = place >= 0 && place < model.marks.size();
    Check.due(run + "markAt(" + place + ")", isThere ? model.marks.get(place)[0] : Check.INDEX,
        () -> rose.markAt(place));
  }

  private void askSector() {
    int y = number(127);
    int x = number(127);
    int v = number(127);
    int u = number(127);
    Object want = isMark(y, x) && isMark(v, u) ? model.inSector(y, x, v, u) : Check.BAD;
    Check.due(run + "inSector(" + y + ", " + x + ", " + v + ", " + u + ")", want,
        () -> rose.inSector(y, x, v, u));
  }

  private void askPoint() {
    int x = number(63);
    int y = number(63);
    String point = "(" + x + ", " + y + ")";
    if (random.nextBoolean()) {
      Check.due(run + "isOn" + point, isPoint(x, y) ? model.isOn(x, y) : Check.BAD, () -> rose.isOn(x, y));
    } else {
      Check.due(run + "winding" + point, isPoint(x, y) ? orState(model.winding(x, y)) : Check.BAD,
          () -> rose.winding(x, y));
    }
  }

  private void askHull() {
    List<Integer> hull = model.hull();
    Check.due(run + "hull()", hull == null ? Check.STATE : hull.size(), rose::hull);
  }

  private void askHullCorner() {
    List<Integer> hull = model.hull();
    int place = random.nextInt(hull == null ? 3 : hull.size() + 2) - 1;
    boolean isThere = hull != null && place >= 0 && place < hull.size();
    Check.due(run + "hullCorner(" + place + ")",
        hull == null ? Check.STATE : isThere ? hull.get(place) : Check.INDEX,
        () -> rose.hullCorner(place));
  }
}
