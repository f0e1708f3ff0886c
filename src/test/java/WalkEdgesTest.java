/** The sentences of 'Walk' and of promises 18 to 25 that name a boundary case, a test for each. */
public final class WalkEdgesTest {
  private static final int[] OUTSIDE = {
    -64, -65, -127, -128, Integer.MIN_VALUE, 64, 65, 127, 128, Integer.MAX_VALUE
  };
  private static final int[] LAST = {-63, -62, 0, 62, 63};

  public static void main(String[] args) {
    noneAtFirst();
    lastPoints();
    wrongPoints();
    fullWalk();
    noSuchCorner();
    shifts();
    drops();
    onCorners();
    onSides();
    onFewCorners();
    windings();
    windingsAtCornersHeight();
    windingsOnTheWalk();
    windingsOfFewCorners();
    windingsOften();
    fewTurns();
    sidesWithoutLength();
    sidesAway();
    wholeTurns();
    turnsOnAxes();
    hullsRefused();
    hulls();
    middleOfASide();
    firstHullCorner();
    sameHullPoint();
    noSuchHullPlace();
    Check.end("WalkEdgesTest");
  }

  /** A walk of the corners that the numbers tell by twos. */
  private static Bearingrose walk(int... numbers) {
    Bearingrose w = new Bearingrose();
    for (int i = 0; i < numbers.length; i += 2) w.corner(numbers[i], numbers[i + 1]);
    return w;
  }

  private static void on(boolean want, Bearingrose w, int x, int y) {
    Check.due("isOn(" + x + ", " + y + ")", want, () -> w.isOn(x, y));
  }

  private static void round(Object want, Bearingrose w, int x, int y) {
    Check.due("winding(" + x + ", " + y + ")", want, () -> w.winding(x, y));
  }

  private static void turns(Object want, int... numbers) {
    Check.due("turning", want, walk(numbers)::turning);
  }

  private static void polygon(Bearingrose w, int... want) {
    Check.due("hull", want.length, w::hull);
    for (int i = 0; i < want.length; i++) {
      int place = i;
      Check.due("hullCorner(" + i + ")", want[i], () -> w.hullCorner(place));
    }
    Check.due("hullCorner(" + want.length + ")", Check.INDEX, () -> w.hullCorner(want.length));
  }

  private static void noneAtFirst() {
    Check.sentence("Walk: none at first, with the numbers 0, 1, 2 and so on");
    Bearingrose w = walk();
    Check.due("shift(0)", Check.INDEX, () -> w.shift(0, 0, 0));
    Check.due("the first corner", 1, () -> w.corner(5, 6));
    Check.due("has the number 0", false, () -> w.shift(0, 5, 6));
    Check.due("and no other", Check.INDEX, () -> w.shift(1, 5, 6));
    Check.due("the second corner", 2, () -> w.corner(7, 8));
    Check.due("has the number 1", false, () -> w.shift(1, 7, 8));
  }

  private static void lastPoints() {
    Check.sentence("Walk: each is a point with whole numbers from -63 to 63");
    for (int x : LAST) {
      for (int y : LAST) {
        String point = "(" + x + ", " + y + ")";
        Bearingrose w = walk();
        Check.due("winding" + point, 0, () -> w.winding(x, y));
        Check.due("isOn" + point, false, () -> w.isOn(x, y));
        Check.due("corner" + point, 1, () -> w.corner(x, y));
        Check.due("isOn" + point, true, () -> w.isOn(x, y));
        Check.due("shift away", true, () -> w.shift(0, 1, 1));
        Check.due("shift to " + point, true, () -> w.shift(0, x, y));
        Check.due("isOn" + point, true, () -> w.isOn(x, y));
        Check.due("not on another", false, () -> w.isOn(1, 1));
      }
    }
  }

  private static void wrongPoints() {
    Bearingrose w = walk(0, 0, 63, 0, 63, 63);
    long before = w.checksum();
    for (int bad : OUTSIDE) {
      for (int good : LAST) {
        wrongPoint(w, bad, good);
        wrongPoint(w, good, bad);
      }
      wrongPoint(w, bad, bad);
    }
    Check.sentence("18, 19: what was refused changed nothing");
    Check.due("checksum", before, w::checksum);
  }

  private static void wrongPoint(Bearingrose w, int x, int y) {
    String point = "(" + x + ", " + y + ")";
    Check.sentence("18 corner: throws if a number is out of range");
    Check.due("corner" + point, Check.BAD, () -> w.corner(x, y));
    Check.sentence("19 shift: throws if a number is out of range");
    Check.due("shift to " + point, Check.BAD, () -> w.shift(2, x, y));
    Check.sentence("21 isOn: throws if a number is out of range");
    Check.due("isOn" + point, Check.BAD, () -> w.isOn(x, y));
    Check.sentence("22 winding: throws if a number is out of range");
    Check.due("winding" + point, Check.BAD, () -> w.winding(x, y));
  }

  private static Bearingrose full() {
    Bearingrose w = new Bearingrose();
    for (int i = 0; i < 16; i++) w.corner(i % 4 * 10, i / 4 * 10);
    return w;
  }

  private static void fullWalk() {
    Check.sentence("18 corner: throws IllegalStateException if the walk has 16 corners");
    Bearingrose w = new Bearingrose();
    for (int i = 0; i < 16; i++) {
      int number = i;
      Check.due("corner " + i, i + 1, () -> w.corner(number, 63));
    }
    Check.due("the 17th", Check.STATE, () -> w.corner(0, 0));
    Check.due("again", Check.STATE, () -> w.corner(15, 63));
    Check.due("drop", 15, w::drop);
    Check.due("when one is dropped there is room", 16, () -> w.corner(0, 0));
    Check.due("and no more", Check.STATE, () -> w.corner(0, 0));
    Check.sentence("18 corner: a number out of range goes ahead of a full walk");
    Check.due("corner(64, 0)", Check.BAD, () -> w.corner(64, 0));
    Check.due("corner(0, -64)", Check.BAD, () -> w.corner(0, -64));
  }

  private static void noSuchCorner() {
    int[] never = {-1, -2, Integer.MIN_VALUE, Integer.MAX_VALUE, 16, 17};
    for (int size = 0; size <= 16; size++) {
      Bearingrose w = new Bearingrose();
      for (int i = 0; i < size; i++) w.corner(i, -i);
      int behind = size;
      Check.sentence("19 shift: throws if there is no such corner");
      for (int corner : never) {
        Check.due(size + " corners, shift(" + corner + ")", Check.INDEX, () -> w.shift(corner, 0, 0));
      }
      Check.due("shift(" + size + ")", Check.INDEX, () -> w.shift(behind, 0, 0));
      Check.sentence("19 shift: no such corner goes ahead of a number out of range");
      Check.due("shift(" + size + ", 64, 0)", Check.INDEX, () -> w.shift(behind, 64, 0));
      Check.due("shift(-1, 0, -64)", Check.INDEX, () -> w.shift(-1, 0, -64));
      if (size == 0) continue;
      Check.sentence("19 shift: its number, from 0");
      Check.due("shift(0)", true, () -> w.shift(0, 63, 63));
      Check.due("the last one of " + size, true, () -> w.shift(behind - 1, -63, -63));
      Check.due("a number out of range", Check.BAD, () -> w.shift(behind - 1, -63, -64));
    }
  }

  private static void shifts() {
    Check.sentence("19 shift: returns whether it is another point than before");
    Bearingrose w = walk(0, 0, 9, 9, 9, 0);
    Check.due("the same", false, () -> w.shift(1, 9, 9));
    Check.due("another x", true, () -> w.shift(1, 8, 9));
    Check.due("another y", true, () -> w.shift(1, 8, 8));
    Check.due("both others", true, () -> w.shift(1, 9, 9));
    Check.due("numbers changed about", true, () -> w.shift(2, 0, 9));
    Check.sentence("Walk: corners may lie at one point");
    Check.due("another corner's point", true, () -> w.shift(2, 0, 0));
    Check.due("the same again", false, () -> w.shift(2, 0, 0));
    Check.sentence("19 shift: puts a corner of the walk elsewhere");
    on(true, w, 5, 5);
    on(false, w, 9, 1);
    Check.due("a corner behind it", 4, () -> w.corner(0, 9));
    on(true, w, 0, 4);
  }

  private static void drops() {
    Check.sentence("20 drop: throws if the walk has none");
    Bearingrose none = walk();
    Check.due("none", Check.NONE, none::drop);
    Check.due("none, again", Check.NONE, none::drop);
    Check.due("a corner behind that", 1, () -> none.corner(3, 3));
    Check.sentence("20 drop: returns how many corners there are then");
    Check.due("the only one", 0, none::drop);
    Check.due("none is left", Check.NONE, none::drop);
    on(false, none, 3, 3);
    Bearingrose w = full();
    for (int i = 15; i >= 0; i--) Check.due("drop", i, w::drop);
    Check.due("all are gone", Check.NONE, w::drop);
    Check.sentence("20 drop: the last corner");
    Bearingrose three = walk(0, 0, 9, 0, 0, 9);
    three.drop();
    on(false, three, 0, 9);
    on(true, three, 9, 0);
    Check.due("no such corner", Check.INDEX, () -> three.shift(2, 0, 0));
  }

  private static void onCorners() {
    Check.sentence("21 isOn: is the point of a corner");
    Bearingrose w = walk(-63, -63, 63, -63, 63, 63, -63, 63);
    on(true, w, -63, -63);
    on(true, w, 63, -63);
    on(true, w, 63, 63);
    on(true, w, -63, 63);
    Check.sentence("21 isOn: lies on a side between its ends");
    on(true, w, -62, -63);
    on(true, w, 63, 62);
    on(true, w, 0, 63);
    on(true, w, -63, 0);
    on(false, w, -62, -62);
    on(false, w, 62, 62);
    on(false, w, 0, 0);
  }

  private static void onSides() {
    Check.sentence("21 isOn: between its ends, not in its line beyond them");
    Bearingrose slanted = walk(-4, -2, 4, 2, 0, 30);
    on(true, slanted, 0, 0);
    on(true, slanted, -2, -1);
    on(true, slanted, 2, 1);
    on(false, slanted, 6, 3);
    on(false, slanted, -6, -3);
    on(false, slanted, 1, 0);
    on(false, slanted, 1, 1);
    Bearingrose level = walk(-5, 7, 5, 7, 0, 30);
    on(true, level, 0, 7);
    on(false, level, 6, 7);
    on(false, level, -6, 7);
    on(false, level, 0, 6);
    Bearingrose upright = walk(7, 5, 7, -5, -30, 0);
    on(true, upright, 7, 0);
    on(false, upright, 7, 6);
    on(false, upright, 7, -6);
    on(false, upright, 8, 0);
    Check.sentence("Walk: sides go from the last one to the first one");
    Bearingrose last = walk(0, 0, 40, 0, 20, 40);
    on(true, last, 10, 20);
    on(false, last, 10, 19);
    Check.sentence("Walk: no side goes from the first corner to one in the middle");
    on(false, walk(0, 0, 10, 0, 10, 10, 0, 10), 5, 5);
  }

  private static void onFewCorners() {
    Check.sentence("21 isOn: false, if there are no corners");
    on(false, walk(), 0, 0);
    on(false, walk(), 63, -63);
    Bearingrose emptied = walk(0, 0);
    emptied.drop();
    on(false, emptied, 0, 0);
    Check.sentence("21 isOn: one corner, or corners at one point");
    for (Bearingrose w : new Bearingrose[] {walk(3, -3), walk(3, -3, 3, -3), walk(3, -3, 3, -3, 3, -3)}) {
      on(true, w, 3, -3);
      on(false, w, 2, -3);
      on(false, w, 3, -2);
      on(false, w, 6, -6);
      on(false, w, 0, 0);
    }
    Check.sentence("21 isOn: two corners, there and back");
    on(true, walk(0, 0, 4, 4), 2, 2);
    on(true, walk(4, 4, 0, 0), 2, 2);
    on(false, walk(0, 0, 4, 4), 2, 3);
    on(false, walk(0, 0, 4, 4), 5, 5);
  }

  private static void windings() {
    Check.sentence("22 winding: anticlockwise ones less clockwise ones");
    round(1, walk(0, 0, 9, 0, 0, 9), 1, 1);
    round(-1, walk(0, 0, 0, 9, 9, 0), 1, 1);
    round(0, walk(0, 0, 9, 0, 0, 9), 5, 5);
    Check.sentence("22 winding: a point just beside a slanted side");
    Bearingrose slim = walk(-63, -62, 62, 63, 63, 63, -62, -62);
    round(Check.STATE, slim, 0, 0);
    round(Check.STATE, slim, 0, 1);
    round(0, slim, 0, 2);
    round(0, slim, 1, 0);
    Bearingrose steep = walk(0, 0, 5, 0, 7, 62, 2, 61);
    round(0, steep, 0, 1);
    round(1, steep, 1, 30);
    round(0, steep, 0, 30);
    round(0, steep, 1, 31);
    round(1, steep, 2, 60);
    round(1, steep, 6, 32);
    round(0, steep, 6, 30);
    round(Check.STATE, steep, 6, 31);
    Bearingrose back = walk(2, 61, 7, 62, 5, 0, 0, 0);
    round(-1, back, 1, 30);
    round(0, back, 1, 31);
    round(0, back, 6, 30);
    round(-1, back, 6, 32);
    Check.sentence("22 winding: a point just inside or just outside");
    Bearingrose box = walk(-63, -63, 63, -63, 63, 63, -63, 63);
    round(1, box, -62, -62);
    round(1, box, 62, 62);
    round(1, box, 62, -62);
    round(1, box, -62, 62);
    Bearingrose small = walk(-62, -62, 62, -62, 62, 62, -62, 62);
    round(0, small, -63, -63);
    round(0, small, 63, 63);
    round(0, small, 63, 0);
    round(0, small, -63, 0);
    round(0, small, 0, 63);
    round(0, small, 0, -63);
  }

  private static void windingsAtCornersHeight() {
    Check.sentence("Theorem: how often it crosses the ray to the right, through corners, too");
    Bearingrose pointed = walk(0, -4, 4, 0, 0, 4, -4, 0);
    round(1, pointed, 0, 0);
    round(0, pointed, -5, 0);
    round(0, pointed, 5, 0);
    round(0, pointed, -1, 4);
    round(0, pointed, -1, -4);
    Bearingrose notched = walk(0, 0, 20, 0, 20, 10, 15, 5, 10, 10, 5, 5, 0, 10);
    round(1, notched, 1, 5);
    round(1, notched, 10, 5);
    round(0, notched, -1, 5);
    round(0, notched, -1, 10);
    round(0, notched, 5, 10);
    Bearingrose stepped = walk(0, 0, 12, 0, 12, 5, 8, 5, 8, 9, 0, 9);
    round(1, stepped, 4, 5);
    round(0, stepped, -4, 5);
    round(0, stepped, -4, 9);
    round(0, stepped, -4, 0);
    Bearingrose dented = walk(0, 9, 0, 0, 4, 0, 4, 5, 8, 5, 8, 0, 12, 0, 12, 9);
    round(1, dented, 2, 5);
    round(0, dented, -2, 5);
    round(0, dented, 6, 0);
  }

  private static void windingsOnTheWalk() {
    Check.sentence("22 winding: throws IllegalStateException if the point lies on the walk");
    Bearingrose w = walk(0, 0, 8, 4, 0, 8);
    round(Check.STATE, w, 0, 0);
    round(Check.STATE, w, 8, 4);
    round(Check.STATE, w, 4, 2);
    round(Check.STATE, w, 4, 6);
    round(Check.STATE, w, 0, 1);
    round(1, w, 4, 3);
    round(0, w, 10, 5);
    round(0, w, 0, 9);
    round(Check.STATE, walk(5, 5), 5, 5);
    round(Check.STATE, walk(0, 0, 8, 8), 4, 4);
  }

  private static void windingsOfFewCorners() {
    Check.sentence("22 winding: 0, if there are no corners");
    round(0, walk(), 0, 0);
    round(0, walk(), -63, 63);
    Bearingrose emptied = walk(0, 0);
    emptied.drop();
    round(0, emptied, 0, 0);
    Check.sentence("22 winding: one corner, corners at one point, there and back");
    round(0, walk(5, 5), 4, 5);
    round(0, walk(5, 5, 5, 5, 5, 5), 4, 5);
    round(0, walk(0, 0, 8, 8), 3, 4);
    round(0, walk(0, 0, 8, 8), 4, 3);
    round(0, walk(0, 0, 4, 4, 8, 8, 4, 4), 3, 4);
  }

  private static void windingsOften() {
    Check.sentence("Walk: sides may cross");
    Bearingrose eight = walk(0, 0, 8, 8, 8, 0, 0, 8);
    round(1, eight, 1, 4);
    round(-1, eight, 7, 4);
    round(0, eight, 4, 6);
    Check.sentence("22 winding: how often, of the most corners");
    Bearingrose left = new Bearingrose();
    Bearingrose right = new Bearingrose();
    int[] xs = {0, 9, 0};
    int[] ys = {0, 0, 9};
    for (int i = 0; i < 15; i++) {
      left.corner(xs[i % 3], ys[i % 3]);
      right.corner(ys[i % 3], xs[i % 3]);
    }
    round(5, left, 2, 2);
    round(-5, right, 2, 2);
    round(0, left, 6, 6);
  }

  private static void fewTurns() {
    Check.sentence("23 turning: throws if there are fewer than three corners");
    turns(Check.STATE);
    turns(Check.STATE, 0, 0);
    turns(Check.STATE, 0, 0, 9, 0);
    Check.sentence("23 turning: three corners are enough");
    turns(1, 0, 0, 9, 0, 0, 9);
    turns(-1, 0, 0, 0, 9, 9, 0);
  }

  private static void sidesWithoutLength() {
    Check.sentence("23 turning: throws if a side has no length");
    turns(Check.STATE, 0, 0, 0, 0, 9, 0, 0, 9);
    turns(Check.STATE, 0, 0, 9, 0, 9, 0, 0, 9);
    turns(Check.STATE, 0, 0, 9, 0, 0, 9, 0, 9);
    turns(Check.STATE, 4, 4, 4, 4, 4, 4);
    Check.sentence("23 turning: the last side, too");
    turns(Check.STATE, 0, 0, 9, 0, 0, 9, 0, 0);
    Check.sentence("23 turning: corners at one point that are not next to one another are none such");
    turns(0, 0, 0, 9, 0, 0, 9, 0, 0, 0, -9, -9, 0);
    turns(2, 0, 0, 9, 0, 0, 9, 0, 0, 9, 0, 0, 9);
    Check.sentence("23 turning: a side of length 1");
    turns(1, 0, 0, 1, 0, 0, 9);
    turns(1, 0, 0, 9, 0, 0, 1);
  }

  private static void sidesAway() {
    Check.sentence("23 turning: throws if two sides behind one another point just away from each other");
    turns(Check.STATE, 0, 0, 9, 0, 3, 0, 0, 9);
    turns(Check.STATE, 0, 0, 6, 3, 2, 1, 0, 9);
    turns(Check.STATE, 0, 0, 9, 0, 9, 9, 9, 3, 0, 3);
    Check.sentence("23 turning: the last one and the first one, too");
    turns(Check.STATE, 0, 0, 9, 0, 9, 9, 18, 0);
    turns(Check.STATE, 0, 0, 2, 1, 5, 9, 8, 4);
    Check.sentence("23 turning: all corners in one line");
    turns(Check.STATE, 0, 0, 2, 0, 4, 0);
    turns(Check.STATE, 0, 0, 4, 4, 2, 2);
    Check.sentence("23 turning: sides straight on, or away but not behind one another, are none such");
    turns(1, 0, 0, 4, 0, 9, 0, 0, 9);
    turns(1, 0, 0, 9, 0, 0, 9, 0, 4);
    turns(1, 0, 0, 9, 0, 9, 9, 0, 9);
    Check.sentence("23 turning: nearly away");
    turns(1, -63, 0, 63, 0, 62, 1);
    turns(-1, 62, 1, 63, 0, -63, 0);
    Check.sentence("23 turning: nearly straight on");
    turns(1, 0, 0, 1, 0, 6, 1, 3, 9);
    turns(-1, 0, 0, 5, 1, 6, 1, 3, -9);
    turns(1, -63, 0, 0, 0, 63, 1, 0, 2);
    turns(-1, -63, 0, 0, 1, 63, 1, 0, -2);
  }

  private static void wholeTurns() {
    Check.sentence("23 turning: to the left counts, to the right less");
    turns(1, 0, 0, 9, 0, 9, 9, 0, 9);
    turns(-1, 0, 9, 9, 9, 9, 0, 0, 0);
    Check.sentence("23 turning: 0 or less, too");
    turns(0, 0, 0, 8, 8, 8, 0, 0, 8);
    turns(-2, 0, 5, 3, -4, -5, 2, 5, 2, -3, -4);
    turns(2, 0, 5, -3, -4, 5, 2, -5, 2, 3, -4);
    Check.sentence("23 turning: of the most corners");
    int[] left = new int[30];
    int[] right = new int[30];
    for (int i = 0; i < 15; i++) {
      left[2 * i] = right[2 * i + 1] = i % 3 == 1 ? 9 : 0;
      left[2 * i + 1] = right[2 * i] = i % 3 == 2 ? 9 : 0;
    }
    turns(5, left);
    turns(-5, right);
    turns(1, 4, 0, 7, 0, 10, 1, 12, 3, 13, 6, 13, 9, 12, 12, 10, 14,
        7, 15, 4, 15, 1, 14, -1, 12, -2, 9, -2, 6, -1, 3, 1, 1);
  }

  /** Sides along the axes and turns to both hands at them. */
  private static void turnsOnAxes() {
    Check.sentence("23 turning: each turn at a corner by less than half a turn");
    turns(1, 0, 0, 12, 0, 12, 5, 8, 5, 8, 9, 0, 9);
    turns(-1, 0, 9, 8, 9, 8, 5, 12, 5, 12, 0, 0, 0);
    turns(1, 0, 0, 9, 0, 9, 9, 6, 9, 6, 3, 3, 3, 3, 9, 0, 9);
    turns(-1, 0, 9, 3, 9, 3, 3, 6, 3, 6, 9, 9, 9, 9, 0, 0, 0);
    turns(1, 0, 0, 9, -3, 18, 0, 9, 3);
    turns(1, 0, 0, 9, 3, 18, 0, 18, 9, 0, 9);
    turns(-1, 0, 9, 18, 9, 18, 0, 9, 3, 0, 0);
    turns(0, 0, 0, 9, 0, 9, 9, 4, 9, 4, -9, 0, -9);
    turns(1, 9, 0, 0, 9, -9, 0, 0, -9);
    turns(-1, 9, 0, 0, -9, -9, 0, 0, 9);
  }

  private static void refusedHull(int... numbers) {
    Bearingrose w = walk(numbers);
    Check.due("hull", Check.STATE, w::hull);
    Check.due("hullCorner(0)", Check.STATE, () -> w.hullCorner(0));
    Check.due("hullCorner(-1)", Check.STATE, () -> w.hullCorner(-1));
    Check.due("hullCorner(16)", Check.STATE, () -> w.hullCorner(16));
    Check.due("hullCorner least", Check.STATE, () -> w.hullCorner(Integer.MIN_VALUE));
  }

  private static void hullsRefused() {
    Check.sentence("24, 25: throws if there are no points; that goes ahead of no such place");
    refusedHull();
    Check.sentence("24, 25: throws if all points lie in one line; that goes ahead of no such place");
    refusedHull(5, 5);
    refusedHull(5, 5, 5, 5);
    refusedHull(5, 5, 5, 5, 5, 5, 5, 5);
    refusedHull(0, 0, 9, 4);
    refusedHull(0, 0, 9, 4, 0, 0);
    refusedHull(0, 0, 0, 0, 9, 4);
    refusedHull(0, 7, 9, 7, 4, 7, -4, 7);
    refusedHull(7, 0, 7, 9, 7, 4);
    refusedHull(-63, -63, 63, 63, 0, 0, -1, -1);
    refusedHull(-63, 63, 63, -63, 1, -1, 1, -1);
    refusedHull(new int[32]);
    Check.sentence("24 hull: nearly in one line");
    polygon(walk(-63, -63, 63, 63, 0, 1), 0, 1, 2);
    polygon(walk(0, 0, 0, 0, 0, 0, 1, 0, 0, 1), 0, 3, 4);
    Check.sentence("24, 25: what lay in one line, and what lies there again");
    Bearingrose w = walk(0, 0, 4, 4, 8, 8);
    w.shift(1, 5, 4);
    Check.due("hull", 3, w::hull);
    w.shift(1, 4, 4);
    Check.due("hull", Check.STATE, w::hull);
    w.corner(0, 8);
    polygon(w, 0, 2, 3);
    w.drop();
    Check.due("hullCorner(0)", Check.STATE, () -> w.hullCorner(0));
  }

  private static void hulls() {
    Check.sentence("24 hull: 3 or more");
    polygon(walk(0, 0, 9, 0, 0, 9), 0, 1, 2);
    polygon(walk(0, 0, 0, 9, 9, 0), 0, 2, 1);
    polygon(walk(-63, -63, 63, -63, 63, 63, -63, 63), 0, 1, 2, 3);
    polygon(walk(4, 0, 7, 0, 10, 1, 12, 3, 13, 6, 13, 9, 12, 12, 10, 14,
        7, 15, 4, 15, 1, 14, -1, 12, -2, 9, -2, 6, -1, 3, 1, 1),
        0, 1, 2, 3, 4, 5, 6, 7, 8, 9, 10, 11, 12, 13, 14, 15);
    Check.sentence("24 hull: holds all points of the walk");
    polygon(walk(5, 5, 0, 0, 9, 0, 9, 9, 0, 9, 4, 1), 1, 2, 3, 4);
    polygon(walk(0, 0, 8, 8, 8, 0, 0, 8), 0, 2, 1, 3);
    polygon(full(), 0, 3, 15, 12);
  }

  private static void middleOfASide() {
    Check.sentence("24 hull: a point in the middle of its side is none of its corners");
    polygon(walk(0, 0, 4, 0, 9, 0, 9, 5, 9, 9, 3, 9, 0, 9, 0, 1), 0, 2, 4, 6);
    polygon(walk(4, 0, 0, 0, 9, 0, 0, 9), 1, 2, 3);
    polygon(walk(1, 0, 8, 0, 9, 0, 0, 0, 2, 0, 5, 9), 3, 2, 5);
    polygon(walk(2, 2, 0, 0, 4, 4, 3, 3, 1, 1, 4, 0), 1, 5, 2);
    polygon(walk(4, 0, 1, 3, 2, 2, 3, 1, 0, 4, 0, 0), 5, 0, 4);
    polygon(walk(0, 2, 0, 4, 0, 3, 0, 0, 0, 1, 5, 1), 3, 5, 1);
  }

  private static void firstHullCorner() {
    Check.sentence("25 hullCorner: from the lowest one");
    polygon(walk(-9, 5, 9, 5, 0, -63, 0, 6), 2, 1, 3, 0);
    polygon(walk(-63, -62, 63, -63, 0, 9), 1, 2, 0);
    Check.sentence("25 hullCorner: of several such the leftmost one");
    polygon(walk(9, 0, 5, 9, 0, 0), 2, 0, 1);
    polygon(walk(63, -63, 0, -63, -63, -63, 0, 63), 2, 0, 3);
    polygon(walk(-9, 9, -1, 0, 0, 0, 9, 9), 1, 2, 3, 0);
    Check.sentence("25 hullCorner: they stand anticlockwise");
    polygon(walk(0, 9, 9, 9, 9, 0, 0, 0), 3, 2, 1, 0);
  }

  private static void sameHullPoint() {
    Check.sentence("25 hullCorner: of several corners at the same point it is the one of the least number");
    polygon(walk(0, 0, 0, 0, 9, 0, 9, 0, 0, 9, 0, 9), 0, 2, 4);
    polygon(walk(9, 9, 0, 9, 0, 0, 9, 0, 9, 9, 0, 9, 0, 0, 9, 0), 2, 3, 0, 1);
    polygon(walk(5, 5, 0, 0, 5, 5, 9, 0, 0, 9, 9, 0, 0, 0, 0, 9, 0, 0), 1, 3, 0, 4);
    polygon(walk(4, 0, 0, 0, 4, 0, 9, 0, 0, 9, 9, 0, 4, 0, 0, 0), 1, 3, 4);
    Bearingrose w = walk(0, 0, 9, 0, 0, 9, 9, 0);
    polygon(w, 0, 1, 2);
    w.shift(1, 1, 1);
    polygon(w, 0, 3, 2);
    w.shift(1, 9, 0);
    polygon(w, 0, 1, 2);
  }

  private static void noSuchHullPlace() {
    Check.sentence("25 hullCorner: throws if there is no such place");
    Bearingrose w = walk(0, 0, 9, 0, 9, 9, 0, 9, 5, 5, 9, 9);
    for (int place : new int[] {-1, -2, 4, 5, 6, 15, 16, Integer.MIN_VALUE, Integer.MAX_VALUE}) {
      Check.due("hullCorner(" + place + ")", Check.INDEX, () -> w.hullCorner(place));
    }
    Check.sentence("25 hullCorner: its place, from 0");
    Check.due("the first", 0, () -> w.hullCorner(0));
    Check.due("the last", 3, () -> w.hullCorner(3));
  }
}
