import java.util.List;
import java.util.Random;

/** Runs of 512 calls with any arguments, right and wrong, against the model (promises 1 to 27). */
public final class RandomRunsTest {
  private static final int RUNS = 1500;
  private static final int CALLS = 512;

  private final Random random;
  private final int reach;
  private final Bearingrose rose = new Bearingrose();
  private final Model model = new Model();
  private final String run;

  private RandomRunsTest(int run) {
    this.random = new Random(run);
    this.reach = new int[] {2, 4, 9, 63}[run % 4];
    this.run = "run " + run + ", ";
  }

  public static void main(String[] args) {
    for (int run = 0; run < RUNS; run++) new RandomRunsTest(run).go();
    Check.end("RandomRunsTest");
  }

  private void go() {
    // every change is followed by one checksum, so that a call that throws is seen to change nothing
    for (int i = 0; i < CALLS / 2; i++) {
      if (random.nextInt(3) == 0) change();
      else ask();
      Check.due(run + i + " checksum", model.checksum(), rose::checksum);
    }
  }

  private int number(int most) {
    int far = random.nextInt(12) == 0 ? most + 3 : Math.min(most, reach);
    return random.nextInt(2 * far + 1) - far;
  }

  private boolean isMark(int y, int x) {
    return Math.abs(y) <= 127 && Math.abs(x) <= 127 && (y != 0 || x != 0);
  }

  private boolean isPoint(int x, int y) {
    return Math.abs(x) <= 63 && Math.abs(y) <= 63;
  }

  private void change() {
    int kind = random.nextInt(10);
    if (kind < 4) mark();
    else if (kind == 4) take();
    else if (kind < 8) corner();
    else if (kind == 8) shift();
    else drop();
  }

  private void mark() {
    int y = number(127);
    int x = number(127);
    Object want = !isMark(y, x) ? Check.BAD : model.marks.size() == 24 ? Check.STATE : model.mark(y, x);
    Check.due(run + "mark(" + y + ", " + x + ")", want, () -> rose.mark(y, x));
  }

  private void take() {
    int place = random.nextInt(model.marks.size() + 2) - 1;
    boolean isThere = place >= 0 && place < model.marks.size();
    Object want = isThere ? model.marks.remove(place)[0] : Check.INDEX;
    Check.due(run + "take(" + place + ")", want, () -> rose.take(place));
  }

  private void corner() {
    int x = number(63);
    int y = number(63);
    Object want;
    if (!isPoint(x, y)) {
      want = Check.BAD;
    } else if (model.corners.size() == 16) {
      want = Check.STATE;
    } else {
      model.corners.add(new int[] {x, y});
      want = model.corners.size();
    }
    Check.due(run + "corner(" + x + ", " + y + ")", want, () -> rose.corner(x, y));
  }

  private void shift() {
    int corner = random.nextInt(model.corners.size() + 2) - 1;
    int x = number(63);
    int y = number(63);
    Object want;
    if (corner < 0 || corner >= model.corners.size()) {
      want = Check.INDEX;
    } else if (!isPoint(x, y)) {
      want = Check.BAD;
    } else {
      int[] before = model.corners.set(corner, new int[] {x, y});
      want = before[0] != x || before[1] != y;
    }
    Check.due(run + "shift(" + corner + ", " + x + ", " + y + ")", want, () -> rose.shift(corner, x, y));
  }

  private void drop() {
    int size = model.corners.size();
    if (size > 0) model.corners.remove(size - 1);
    Check.due(run + "drop()", size > 0 ? size - 1 : Check.NONE, rose::drop);
  }

  private void ask() {
    switch (random.nextInt(11)) {
      case 0: askPlace(); break;
      case 1: Check.due(run + "marks()", model.marks.size(), rose::marks); break;
      case 2: askSector(); break;
      case 3: Check.due(run + "opposites()", model.opposites(), rose::opposites); break;
      case 4: Check.due(run + "isOneSided()", model.isOneSided(), rose::isOneSided); break;
      case 5: Check.due(run + "sum()", model.sum(), rose::sum); break;
      case 6: askPoint(); break;
      case 7: Check.due(run + "turning()", orState(model.turning()), rose::turning); break;
      case 8: askHull(); break;
      case 9: askHullCorner(); break;
      default: Check.due(run + "isTrue()", true, rose::isTrue); break;
    }
  }

  private static Object orState(Object answer) {
    return answer == null ? Check.STATE : answer;
  }

  private void askPlace() {
    int place = random.nextInt(model.marks.size() + 2) - 1;
    boolean isThere = place >= 0 && place < model.marks.size();
    Check.due(run + "markAt(" + place + ")", isThere ? model.marks.get(place)[0] : Check.INDEX,
        () -> rose.markAt(place));
  }

  private void askSector() {
    int y = number(127);
    int x = number(127);
    int v = number(127);
    int u = number(127);
    Object want = isMark(y, x) && isMark(v, u) ? model.inSector(y, x, v, u) : Check.BAD;
    Check.due(run + "inSector(" + y + ", " + x + ", " + v + ", " + u + ")", want,
        () -> rose.inSector(y, x, v, u));
  }

  private void askPoint() {
    int x = number(63);
    int y = number(63);
    String point = "(" + x + ", " + y + ")";
    if (random.nextBoolean()) {
      Check.due(run + "isOn" + point, isPoint(x, y) ? model.isOn(x, y) : Check.BAD, () -> rose.isOn(x, y));
    } else {
      Check.due(run + "winding" + point, isPoint(x, y) ? orState(model.winding(x, y)) : Check.BAD,
          () -> rose.winding(x, y));
    }
  }

  private void askHull() {
    List<Integer> hull = model.hull();
    Check.due(run + "hull()", hull == null ? Check.STATE : hull.size(), rose::hull);
  }

  private void askHullCorner() {
    List<Integer> hull = model.hull();
    int place = random.nextInt(hull == null ? 3 : hull.size() + 2) - 1;
    boolean isThere = hull != null && place >= 0 && place < hull.size();
    Check.due(run + "hullCorner(" + place + ")",
        hull == null ? Check.STATE : isThere ? hull.get(place) : Check.INDEX,
        () -> rose.hullCorner(place));
  }
}
