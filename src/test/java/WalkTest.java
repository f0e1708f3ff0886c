/** Promises 1 and 18 to 25: the walk. */
public final class WalkTest {
  private static final int[] OUTSIDE = {-64, 64, 65, 127, Integer.MIN_VALUE, Integer.MAX_VALUE};

  public static void main(String[] args) {
    empty();
    full();
    wrongPoints();
    shifts();
    on();
    windings();
    turnings();
    hulls();
    hullCorners();
    lastCall();
    Check.end("WalkTest");
  }

  /** A walk of the corners that the numbers tell by twos. */
  private static Bearingrose walk(int... numbers) {
    Bearingrose w = new Bearingrose();
    for (int i = 0; i < numbers.length; i += 2) w.corner(numbers[i], numbers[i + 1]);
    return w;
  }

  private static void empty() {
    Bearingrose w = new Bearingrose();
    Check.due("empty drop", Check.NONE, w::drop);
    Check.due("empty shift", Check.INDEX, () -> w.shift(0, 0, 0));
    Check.due("empty isOn", false, () -> w.isOn(0, 0));
    Check.due("empty winding", 0, () -> w.winding(0, 0));
    Check.due("empty turning", Check.STATE, w::turning);
    Check.due("empty hull", Check.STATE, w::hull);
    Check.due("empty hullCorner", Check.STATE, () -> w.hullCorner(-1));
  }

  private static void full() {
    Bearingrose w = new Bearingrose();
    for (int i = 0; i < 16; i++) {
      int number = i;
      Check.due("corner " + i, i + 1, () -> w.corner(number % 4 * 42 - 63, number / 4 * 42 - 63));
    }
    long before = w.checksum();
    Check.due("the 17th corner", Check.STATE, () -> w.corner(0, 0));
    Check.due("wrong numbers go first", Check.BAD, () -> w.corner(64, 0));
    Check.due("checksum stays", before, w::checksum);
    Check.due("hull", 4, w::hull);
    Check.due("shift(15)", true, () -> w.shift(15, 62, 62));
    Check.due("shift(16)", Check.INDEX, () -> w.shift(16, 0, 0));
    Check.due("isTrue", true, w::isTrue);
    for (int i = 15; i >= 0; i--) Check.due("drop", i, w::drop);
    Check.due("drop of none", Check.NONE, w::drop);
    Check.due("a corner again", 1, () -> w.corner(-63, 63));
  }

  private static void wrongPoints() {
    Bearingrose w = walk(1, 2);
    long before = w.checksum();
    for (int bad : OUTSIDE) {
      Check.due("corner x", Check.BAD, () -> w.corner(bad, 0));
      Check.due("corner y", Check.BAD, () -> w.corner(0, bad));
      Check.due("shift x", Check.BAD, () -> w.shift(0, bad, 0));
      Check.due("shift y", Check.BAD, () -> w.shift(0, 0, bad));
      Check.due("shift of none", Check.INDEX, () -> w.shift(1, bad, 0));
      Check.due("isOn x", Check.BAD, () -> w.isOn(bad, 0));
      Check.due("isOn y", Check.BAD, () -> w.isOn(0, bad));
      Check.due("winding x", Check.BAD, () -> w.winding(bad, 2));
      Check.due("winding y", Check.BAD, () -> w.winding(1, bad));
    }
    Check.due("checksum stays", before, w::checksum);
    Check.due("isOn(63, -63)", false, () -> w.isOn(63, -63));
    Check.due("winding(-63, 63)", 0, () -> w.winding(-63, 63));
  }

  private static void shifts() {
    Bearingrose w = walk(0, 0, 5, 5);
    Check.due("same", false, () -> w.shift(1, 5, 5));
    Check.due("other x", true, () -> w.shift(1, 6, 5));
    Check.due("other y", true, () -> w.shift(1, 6, -63));
    Check.due("same again", false, () -> w.shift(1, 6, -63));
    Check.due("first", true, () -> w.shift(0, 63, 63));
    Check.due("is there", true, () -> w.isOn(63, 63));
    Check.due("is no longer there", false, () -> w.isOn(0, 0));
    Check.due("below", Check.INDEX, () -> w.shift(-1, 0, 0));
    Check.due("above", Check.INDEX, () -> w.shift(2, 0, 0));
    Check.due("far above", Check.INDEX, () -> w.shift(Integer.MAX_VALUE, 0, 0));
    Check.due("far below", Check.INDEX, () -> w.shift(Integer.MIN_VALUE, 64, 64));
  }

  private static void on() {
    Bearingrose one = walk(3, 4);
    Check.due("one corner", true, () -> one.isOn(3, 4));
    Check.due("beside one corner", false, () -> one.isOn(4, 4));
    Bearingrose two = walk(-63, -63, 63, 63);
    Check.due("between", true, () -> two.isOn(0, 0));
    Check.due("at the end", true, () -> two.isOn(63, 63));
    Check.due("beside", false, () -> two.isOn(0, 1));
    Bearingrose w = walk(0, 0, 6, 2, 0, 8);
    Check.due("in a side", true, () -> w.isOn(3, 1));
    Check.due("in its line behind it", false, () -> w.isOn(9, 3));
    Check.due("in its line ahead of it", false, () -> w.isOn(-3, -1));
    Check.due("in the last side", true, () -> w.isOn(0, 5));
    Check.due("inside", false, () -> w.isOn(2, 3));
  }

  private static void windings() {
    Bearingrose w = walk(0, 0, 10, 0, 10, 10, 0, 10);
    Check.due("inside", 1, () -> w.winding(5, 5));
    Check.due("right", 0, () -> w.winding(11, 5));
    Check.due("left", 0, () -> w.winding(-1, 5));
    Check.due("left at a side's height", 0, () -> w.winding(-1, 0));
    Check.due("left at the upper side's height", 0, () -> w.winding(-1, 10));
    Check.due("on a side", Check.STATE, () -> w.winding(5, 0));
    Check.due("on a corner", Check.STATE, () -> w.winding(10, 10));
    Bearingrose back = walk(0, 10, 10, 10, 10, 0, 0, 0);
    Check.due("clockwise", -1, () -> back.winding(5, 5));
    Bearingrose twice = walk(0, 0, 9, 0, 9, 9, 0, 9, 0, 0, 8, 0, 8, 8, 0, 8);
    Check.due("twice", 2, () -> twice.winding(4, 4));
    Bearingrose eight = walk(-5, -5, 5, 5, 5, -5, -5, 5);
    Check.due("left of eight", 1, () -> eight.winding(-4, 0));
    Check.due("right of eight", -1, () -> eight.winding(4, 0));
    Bearingrose pointed = walk(-4, 0, 0, -4, 4, 0, 0, 4);
    Check.due("a corner at its height", 1, () -> pointed.winding(0, 0));
    Check.due("a corner at its height, outside", 0, () -> pointed.winding(-5, 0));
    Bearingrose line = walk(0, 0, 5, 5);
    Check.due("there and back", 0, () -> line.winding(1, 2));
  }

  private static void turnings() {
    Check.due("one", Check.STATE, walk(1, 1)::turning);
    Check.due("two", Check.STATE, walk(1, 1, 2, 2)::turning);
    Check.due("left", 1, walk(0, 0, 4, 0, 0, 4)::turning);
    Check.due("right", -1, walk(0, 4, 4, 0, 0, 0)::turning);
    Check.due("eight", 0, walk(-5, -5, 5, 5, 5, -5, -5, 5)::turning);
    Check.due("star", -2, walk(0, 5, 3, -4, -5, 2, 5, 2, -3, -4)::turning);
    Check.due("straight on", 1, walk(0, 0, 2, 0, 4, 0, 0, 4)::turning);
    Check.due("no length", Check.STATE, walk(0, 0, 0, 0, 4, 0, 0, 4)::turning);
    Check.due("no length at last", Check.STATE, walk(0, 0, 4, 0, 0, 4, 0, 0)::turning);
    Check.due("away", Check.STATE, walk(0, 0, 4, 0, 2, 0, 0, 4)::turning);
    Check.due("away at last", Check.STATE, walk(2, 0, 4, 0, 4, 4, 0, 0, 6, 0)::turning);
    Check.due("last and first away", Check.STATE, walk(0, 0, 4, 0, 4, 4, 8, 0)::turning);
    Check.due("in one line", Check.STATE, walk(0, 0, 2, 2, 5, 5)::turning);
    Check.due("three times", 3,
        walk(0, 0, 9, 0, 0, 9, 0, 0, 9, 0, 0, 9, 0, 0, 9, 0, 0, 9)::turning);
  }

  private static void hulls() {
    Check.due("one", Check.STATE, walk(0, 0)::hull);
    Check.due("two", Check.STATE, walk(0, 0, 1, 1)::hull);
    Check.due("at one point", Check.STATE, walk(3, 3, 3, 3, 3, 3)::hull);
    Check.due("sixteen at one point", Check.STATE, walk(new int[32])::hull);
    Check.due("in one line", Check.STATE, walk(-63, -63, 63, 63, 0, 0, 5, 5)::hull);
    Check.due("three", 3, walk(0, 0, 1, 0, 0, 1)::hull);
    Check.due("clockwise", 3, walk(0, 0, 0, 1, 1, 0)::hull);
    Check.due("with the middle of a side", 3, walk(0, 0, 2, 0, 4, 0, 0, 4)::hull);
    Check.due("with a point inside", 4, walk(0, 0, 9, 0, 9, 9, 0, 9, 5, 4)::hull);
    Check.due("with points twice", 3, walk(0, 0, 0, 0, 4, 0, 4, 0, 0, 4, 0, 4)::hull);
    Check.due("sixteen", 16, walk(4, 0, 7, 0, 10, 1, 12, 3, 13, 6, 13, 9, 12, 12, 10, 14,
        7, 15, 4, 15, 1, 14, -1, 12, -2, 9, -2, 6, -1, 3, 1, 1)::hull);
  }

  private static void hullCorners() {
    Bearingrose w = walk(5, 5, 9, 9, 0, 0, 9, 0, 0, 0, 9, 9, 5, 0, 0, 9, 0, 9);
    int[] order = {2, 3, 1, 7};
    for (int i = 0; i < order.length; i++) {
      int place = i;
      Check.due("hullCorner " + i, order[i], () -> w.hullCorner(place));
    }
    Check.due("hullCorner(-1)", Check.INDEX, () -> w.hullCorner(-1));
    Check.due("hullCorner(4)", Check.INDEX, () -> w.hullCorner(4));
    Check.due("hullCorner greatest", Check.INDEX, () -> w.hullCorner(Integer.MAX_VALUE));
    Bearingrose line = walk(0, 0, 2, 2, 4, 4);
    Check.due("in one line, no such place", Check.STATE, () -> line.hullCorner(99));
    Bearingrose low = walk(63, -63, 0, 0, -63, -63);
    Check.due("the leftmost of the lowest", 2, () -> low.hullCorner(0));
    Check.due("then anticlockwise", 0, () -> low.hullCorner(1));
  }

  private static void lastCall() {
    Bearingrose w = walk(0, 0, 9, 0, 0, 9);
    for (int i = 3; i < 511; i++) w.shift(2, 0, i % 60 + 1);
    Check.due("the 512th call", 1, () -> w.winding(1, 1));
  }
}
