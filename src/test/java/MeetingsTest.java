import java.util.List;

/**
 * The places where two sentences of the document meet: which of two exceptions is thrown, what a
 * refused call leaves, and what is told after marks were taken out, and corners shifted or dropped.
 */
public final class MeetingsTest {
  private static final int[] BAD_NUMBERS = {
    Integer.MIN_VALUE, -256, -129, -128, 129, 255, 256, Integer.MAX_VALUE
  };
  private static final int[] BAD_MARKS = {Integer.MIN_VALUE, -129, -128, 128, 129, Integer.MAX_VALUE};
  private static final int[] BAD_POINTS = {Integer.MIN_VALUE, -65, -64, 64, 65, Integer.MAX_VALUE};
  private static final int[] BAD_PLACES = {Integer.MIN_VALUE, -1, 24, 25, Integer.MAX_VALUE};
  /** Noughts and their like, opposite, and like directions; y first. */
  private static final int[][] MARKS = {{0, 1}, {0, -1}, {1, 2}, {2, 4}, {-1, -2}, {-1, 0}};
  private static final int[][] POINTS = {{0, 0}, {2, 0}, {0, 2}, {1, 1}};
  private static final int LENGTH = 5;

  public static void main(String[] args) {
    axisOrPair();
    quotientOrPair();
    twoPairs();
    markOfTheFull();
    cornerOfTheFull();
    shiftOfNone();
    windingBesideTheWalk();
    hullCornerOfALine();
    refusedBesideMarks();
    refusedBesideCorners();
    numberBehindRefusals();
    shortRosesRun();
    shortWalksRun();
    allCallsOfOneObject();
    Check.end("MeetingsTest");
  }

  private static void axisOrPair() {
    Check.sentence("4 axisBits: no pair, and neither is a nought: documented first is no pair");
    Bearingrose r = new Bearingrose();
    for (int bad : BAD_NUMBERS) {
      for (int other : new int[] {-127, -1, 1, 127}) {
        Check.due("axisBits(" + bad + ", " + other + ")", Check.BAD, () -> r.axisBits(bad, other));
        Check.due("axisBits(" + other + ", " + bad + ")", Check.BAD, () -> r.axisBits(other, bad));
      }
      Check.due("axisBits(" + bad + ") twice", Check.BAD, () -> r.axisBits(bad, bad));
    }
  }

  private static void quotientOrPair() {
    Check.sentence("8 isQuotient: no pair, and x is not above 0: documented first is no pair");
    Bearingrose r = new Bearingrose();
    for (int bad : BAD_NUMBERS) {
      for (int other : new int[] {-127, -1, 0, 128}) {
        Check.due("isQuotient(" + bad + ", " + other + ")", Check.BAD, () -> r.isQuotient(bad, other));
        Check.due("isQuotient(" + other + ", " + bad + ")", Check.BAD, () -> r.isQuotient(other, bad));
      }
    }
    for (int y : new int[] {0, 128}) {
      for (int x : new int[] {0, 128}) {
        Check.due("isQuotient(" + y + ", " + x + ")", Check.BAD, () -> r.isQuotient(y, x));
      }
    }
  }

  /** Either pair may be wrong while the other one is right, or both, each in its own way. */
  private static void twoPairs() {
    int[][] pairs = {{1, 2}, {0, 1}, {0, 0}, {0, 128}, {128, 0}, {128, 128}, {128, 1}, {1, 128},
      {129, 1}, {1, 129}, {-128, 1}, {1, -128}, {129, -128}, {0, 129}, {-128, 0}, {256, 128}};
    Bearingrose r = new Bearingrose();
    r.mark(1, 2);
    for (int[] p : pairs) {
      for (int[] q : pairs) {
        String both = "(" + p[0] + ", " + p[1] + ", " + q[0] + ", " + q[1] + ")";
        Check.sentence("6 order: a number out of range, or both of a pair are noughts");
        boolean arePairs = isPair(p) && isPair(q);
        Check.due("order" + both,
            arePairs ? (Object) Integer.signum(Double.compare(number(p), number(q))) : Check.BAD,
            () -> r.order(p[0], p[1], q[0], q[1]));
        Check.sentence("14 inSector: a number not from -127 to 127, or both of a pair are 0");
        boolean areMarks = isMark(p) && isMark(q);
        boolean holdsMark = areMarks && fromTo(number(p), number(q), StrictMath.atan2(1, 2));
        Check.due("inSector" + both, areMarks ? (Object) (holdsMark ? 1 : 0) : Check.BAD,
            () -> r.inSector(p[0], p[1], q[0], q[1]));
      }
    }
  }

  private static boolean isPair(int[] p) {
    boolean isInRange = p[0] >= -127 && p[0] <= 128 && p[1] >= -127 && p[1] <= 128;
    return isInRange && !(Model.isNought(p[0]) && Model.isNought(p[1]));
  }

  private static boolean isMark(int[] p) {
    return isPair(p) && p[0] != 128 && p[1] != 128;
  }

  /** The angle as a number, so that both noughts are one. */
  private static double number(int[] p) {
    return isPair(p) ? Model.angle(p[0], p[1]) + 0.0 : 0.0;
  }

  private static boolean fromTo(double from, double to, double angle) {
    return from <= to ? from <= angle && angle <= to : from <= angle || angle <= to;
  }

  private static Bearingrose fullOfMarks() {
    Bearingrose r = new Bearingrose();
    for (int i = 0; i < 24; i++) r.mark(5, i - 12);
    return r;
  }

  private static Bearingrose fullOfCorners() {
    Bearingrose r = new Bearingrose();
    for (int i = 0; i < 16; i++) r.corner(i % 5, i * i % 7);
    return r;
  }

  private static void markOfTheFull() {
    Check.sentence("10 mark: no mark, and 24 marks: documented first is no mark");
    Bearingrose r = fullOfMarks();
    for (int bad : BAD_MARKS) {
      for (int other : new int[] {-127, 0, 127}) {
        Check.due("mark(" + bad + ", " + other + ")", Check.BAD, () -> r.mark(bad, other));
        Check.due("mark(" + other + ", " + bad + ")", Check.BAD, () -> r.mark(other, bad));
      }
    }
    Check.due("mark(0, 0)", Check.BAD, () -> r.mark(0, 0));
    Check.due("a good one", Check.STATE, () -> r.mark(1, 0));
    Check.due("marks", 24, r::marks);
  }

  private static void cornerOfTheFull() {
    Check.sentence("18 corner: no point, and 16 corners: documented first is no point");
    Bearingrose r = fullOfCorners();
    for (int bad : BAD_POINTS) {
      for (int other : new int[] {-63, 0, 63}) {
        Check.due("corner(" + bad + ", " + other + ")", Check.BAD, () -> r.corner(bad, other));
        Check.due("corner(" + other + ", " + bad + ")", Check.BAD, () -> r.corner(other, bad));
      }
    }
    Check.due("a good one", Check.STATE, () -> r.corner(63, -63));
    Check.due("drop", 15, r::drop);
  }

  private static void shiftOfNone() {
    Check.sentence("19 shift: no such corner, and no point: documented first is no such corner");
    for (int size : new int[] {0, 1, 2, 15, 16}) {
      Bearingrose r = new Bearingrose();
      for (int i = 0; i < size; i++) r.corner(i, 0);
      for (int corner : new int[] {Integer.MIN_VALUE, -1, size, size + 1, Integer.MAX_VALUE}) {
        for (int bad : BAD_POINTS) {
          Check.due(size + " corners, shift(" + corner + ", " + bad + ", 0)", Check.INDEX,
              () -> r.shift(corner, bad, 0));
          Check.due(size + " corners, shift(" + corner + ", 0, " + bad + ")", Check.INDEX,
              () -> r.shift(corner, 0, bad));
        }
        Check.due(size + " corners, shift(" + corner + ", 0, 0)", Check.INDEX, () -> r.shift(corner, 0, 0));
      }
      for (int bad : BAD_POINTS) {
        if (size == 0) continue;
        Check.due(size + " corners, the last to x " + bad, Check.BAD, () -> r.shift(size - 1, bad, 0));
        Check.due(size + " corners, the last to y " + bad, Check.BAD, () -> r.shift(size - 1, 0, bad));
      }
    }
  }

  private static void windingBesideTheWalk() {
    Check.sentence("22 winding: no point goes ahead, also in the line of a side");
    Bearingrose r = new Bearingrose();
    r.corner(-63, 0);
    r.corner(63, 0);
    for (int bad : BAD_POINTS) {
      Check.due("winding(" + bad + ", 0)", Check.BAD, () -> r.winding(bad, 0));
      Check.due("isOn(" + bad + ", 0)", Check.BAD, () -> r.isOn(bad, 0));
    }
    Check.due("winding(63, 0)", Check.STATE, () -> r.winding(63, 0));
    Check.due("winding(0, 1)", 0, () -> r.winding(0, 1));
  }

  private static void hullCornerOfALine() {
    Check.sentence("25 hullCorner: one line, and no such place: documented first is one line");
    Bearingrose r = new Bearingrose();
    for (int i = 0; i <= 16; i++) {
      for (int place : new int[] {Integer.MIN_VALUE, -1, 0, 2, 3, i, 16, Integer.MAX_VALUE}) {
        Check.due(i + " corners, hullCorner(" + place + ")", Check.STATE, () -> r.hullCorner(place));
      }
      if (i < 16) r.corner(3 * i - 20, 2 * i - 9);
    }
    r.shift(15, 0, 60);
    Check.due("hull", 3, r::hull);
    for (int place : new int[] {Integer.MIN_VALUE, -1, 3, 4, 15, 16, Integer.MAX_VALUE}) {
      Check.due("no line, hullCorner(" + place + ")", Check.INDEX, () -> r.hullCorner(place));
    }
  }

  private static void refusedBesideMarks() {
    Check.sentence("Exceptions: a refused mark or take leaves numbers and places");
    for (int size = 0; size <= 24; size++) {
      Bearingrose r = new Bearingrose();
      Model m = new Model();
      for (int i = 0; i < size; i++) {
        r.mark(i % 5 - 2, 2 - i % 3 * 3);
        m.mark(i % 5 - 2, 2 - i % 3 * 3);
      }
      int behind = size;
      for (int bad : BAD_MARKS) Check.due("mark y " + bad, Check.BAD, () -> r.mark(bad, 1));
      Check.due("mark(0, 0)", Check.BAD, () -> r.mark(0, 0));
      for (int bad : BAD_PLACES) Check.due("take(" + bad + ")", Check.INDEX, () -> r.take(bad));
      Check.due("take(" + size + ")", Check.INDEX, () -> r.take(behind));
      if (size == 24) Check.due("one too many", Check.STATE, () -> r.mark(1, 1));
      askRose(size + " marks", r, m);
      if (size == 24) {
        Check.due("take(7)", m.marks.remove(7)[0], () -> r.take(7));
      }
      Check.due("the next number behind " + size, m.mark(-1, 1), () -> r.mark(-1, 1));
      askRose("one more than " + size, r, m);
    }
  }

  private static void refusedBesideCorners() {
    Check.sentence("Exceptions: a refused corner, shift or drop leaves the walk");
    for (int size = 0; size <= 16; size++) {
      Bearingrose r = new Bearingrose();
      Model m = new Model();
      if (size == 0) Check.due("drop", Check.NONE, r::drop);
      for (int i = 0; i < size; i++) putCorner(r, m, i * i % 6 - 2, i * 5 % 7 - 3);
      for (int bad : BAD_POINTS) {
        int last = Math.max(size - 1, 0);
        String none = size == 0 ? Check.INDEX : Check.BAD;
        Check.due("corner x " + bad, Check.BAD, () -> r.corner(bad, 1));
        Check.due("corner y " + bad, Check.BAD, () -> r.corner(1, bad));
        Check.due("shift of a good y", none, () -> r.shift(last, bad, 61));
        Check.due("shift of a good x", none, () -> r.shift(last, 61, bad));
      }
      int behind = size;
      Check.due("shift(-1)", Check.INDEX, () -> r.shift(-1, 61, 61));
      Check.due("shift(" + size + ")", Check.INDEX, () -> r.shift(behind, 61, 61));
      if (size == 16) Check.due("one too many", Check.STATE, () -> r.corner(61, 61));
      askWalk(size + " corners", r, m);
    }
  }

  private static void numberBehindRefusals() {
    Check.sentence("10 mark: one more than that of the mark put in before it, beside refusals and takes");
    Bearingrose r = new Bearingrose();
    for (int i = 0; i < 60; i++) {
      int number = i;
      Check.due("no mark", Check.BAD, () -> r.mark(0, 0));
      Check.due("mark", number, () -> r.mark(3, 7));
      Check.due("no such place", Check.INDEX, () -> r.take(1));
      Check.due("take", number, () -> r.take(0));
      Check.due("none to take", Check.INDEX, () -> r.take(0));
    }
    for (int i = 60; i < 84; i++) {
      int number = i;
      Check.due("mark", number, () -> r.mark(3, 7));
    }
    Check.due("one too many", Check.STATE, () -> r.mark(3, 7));
    Check.due("the first place", 60, () -> r.take(0));
    Check.due("and the next number", 84, () -> r.mark(3, 7));
    Check.due("behind all like ones", 84, () -> r.markAt(23));
  }

  private static void askRose(String when, Bearingrose r, Model m) {
    Check.due(when + ": marks", m.marks.size(), r::marks);
    for (int i = 0; i < m.marks.size(); i++) {
      int place = i;
      Check.due(when + ": markAt(" + i + ")", m.marks.get(i)[0], () -> r.markAt(place));
    }
    int behind = m.marks.size();
    Check.due(when + ": markAt(" + behind + ")", Check.INDEX, () -> r.markAt(behind));
    Check.due(when + ": sum", m.sum(), r::sum);
    Check.due(when + ": opposites", m.opposites(), r::opposites);
    Check.due(when + ": isOneSided", m.isOneSided(), r::isOneSided);
    for (int[] from : MARKS) {
      for (int[] to : MARKS) {
        Check.due(when + ": inSector", m.inSector(from[0], from[1], to[0], to[1]),
            () -> r.inSector(from[0], from[1], to[0], to[1]));
      }
    }
    Check.due(when + ": isTrue", true, r::isTrue);
    Check.due(when + ": checksum", m.checksum(), r::checksum);
  }

  private static Object orState(Object answer) {
    return answer == null ? Check.STATE : answer;
  }

  private static void askWalk(String when, Bearingrose r, Model m) {
    for (int x = -1; x <= 2; x++) {
      for (int y = -1; y <= 2; y++) {
        int px = x;
        int py = y;
        String point = "(" + x + ", " + y + ")";
        Check.due(when + ": isOn" + point, m.isOn(x, y), () -> r.isOn(px, py));
        Check.due(when + ": winding" + point, orState(m.winding(x, y)), () -> r.winding(px, py));
      }
    }
    Check.due(when + ": turning", orState(m.turning()), r::turning);
    List<Integer> hull = m.hull();
    Check.due(when + ": hull", hull == null ? Check.STATE : hull.size(), r::hull);
    for (int i = -1; hull != null && i <= hull.size(); i++) {
      int place = i;
      Check.due(when + ": hullCorner(" + i + ")",
          i < 0 || i == hull.size() ? Check.INDEX : hull.get(i), () -> r.hullCorner(place));
    }
    if (hull == null) Check.due(when + ": hullCorner(0)", Check.STATE, () -> r.hullCorner(0));
    Check.due(when + ": isTrue", true, r::isTrue);
    Check.due(when + ": checksum", m.checksum(), r::checksum);
  }

  private static void putCorner(Bearingrose r, Model m, int x, int y) {
    m.corners.add(new int[] {x, y});
    Check.due("corner(" + x + ", " + y + ")", m.corners.size(), () -> r.corner(x, y));
  }

  /** Every run of five changes: a mark of six, or one taken from the first, second or last place. */
  private static void shortRosesRun() {
    Check.sentence("10, 11, 12: marks taken out, numbers and places");
    int kinds = MARKS.length + 3;
    int runs = (int) Math.pow(kinds, LENGTH);
    for (int run = 0; run < runs; run++) roseRun(run, kinds);
  }

  private static void roseRun(int run, int kinds) {
    Bearingrose r = new Bearingrose();
    Model m = new Model();
    StringBuilder told = new StringBuilder();
    for (int i = 0, rest = run; i < LENGTH; i++, rest /= kinds) {
      int kind = rest % kinds;
      if (kind < MARKS.length) {
        int[] p = MARKS[kind];
        told.append("mark(").append(p[0]).append(", ").append(p[1]).append(") ");
        Check.due(told.toString(), m.mark(p[0], p[1]), () -> r.mark(p[0], p[1]));
      } else {
        int place = new int[] {0, 1, m.marks.size() - 1}[kind - MARKS.length];
        boolean isThere = place >= 0 && place < m.marks.size();
        told.append("take(").append(place).append(") ");
        Check.due(told.toString(), isThere ? m.marks.remove(place)[0] : Check.INDEX, () -> r.take(place));
      }
    }
    askPlaces(told.toString(), r, m);
  }

  private static void askPlaces(String when, Bearingrose r, Model m) {
    for (int i = -1; i <= m.marks.size(); i++) {
      int place = i;
      boolean isThere = i >= 0 && i < m.marks.size();
      Check.due(when + "markAt(" + i + ")", isThere ? m.marks.get(i)[0] : Check.INDEX, () -> r.markAt(place));
    }
    Check.due(when + "opposites", m.opposites(), r::opposites);
    Check.due(when + "isOneSided", m.isOneSided(), r::isOneSided);
    Check.due(when + "isTrue", true, r::isTrue);
    Check.due(when + "checksum", m.checksum(), r::checksum);
  }

  /** Every run of five changes: a corner at one of four points, a drop, or one of three shifts. */
  private static void shortWalksRun() {
    Check.sentence("19 to 26: corners shifted and dropped, and all that is reckoned of the walk");
    int kinds = POINTS.length + 4;
    int runs = (int) Math.pow(kinds, LENGTH);
    for (int run = 0; run < runs; run++) walkRun(run, kinds);
  }

  private static void walkRun(int run, int kinds) {
    Bearingrose r = new Bearingrose();
    Model m = new Model();
    StringBuilder told = new StringBuilder();
    // three corners stand first, so that most runs have a walk to reckon of
    for (int[] p : new int[][] {{0, 0}, {2, 0}, {0, 2}}) putCorner(r, m, p[0], p[1]);
    for (int i = 0, rest = run; i < LENGTH; i++, rest /= kinds) {
      walkStep(rest % kinds, r, m, told);
    }
    askWalk(told.toString(), r, m);
  }

  private static void walkStep(int kind, Bearingrose r, Model m, StringBuilder told) {
    int size = m.corners.size();
    if (kind < POINTS.length) {
      told.append("corner ").append(kind).append(' ');
      putCorner(r, m, POINTS[kind][0], POINTS[kind][1]);
    } else if (kind == POINTS.length) {
      told.append("drop ");
      Check.due(told.toString(), size == 0 ? Check.NONE : size - 1, r::drop);
      if (size > 0) m.corners.remove(size - 1);
    } else {
      int corner = new int[] {0, 1, size - 1}[kind - POINTS.length - 1];
      int x = kind % 2 == 0 ? 1 : 2;
      int y = kind % 3;
      told.append("shift ").append(corner).append(' ');
      boolean isThere = corner >= 0 && corner < size;
      int[] before = isThere ? m.corners.set(corner, new int[] {x, y}) : null;
      Check.due(told.toString(), isThere ? before[0] != x || before[1] != y : Check.INDEX,
          () -> r.shift(corner, x, y));
    }
  }

  /** Each call of the face in turn, so that the rose and the walk change between those that ask. */
  private static void allCallsOfOneObject() {
    Check.sentence("What it is: one object used for all of its 512 calls");
    for (int start = 0; start < 24; start++) {
      Bearingrose r = new Bearingrose();
      Model m = new Model();
      for (int call = 1; call <= 512; call++) oneOfAll(call, call * 5 + start, r, m);
    }
  }

  private static void oneOfAll(int call, int turn, Bearingrose r, Model m) {
    String when = "call " + call + " of " + turn + ": ";
    int y = turn * 37 % 255 - 127;
    int x = turn * 91 % 254 + 1 - 127;
    int a = turn * 17 % 7 - 3;
    int b = turn * 29 % 9 - 4;
    switch (turn % 26) {
      case 0: Check.due(when + "angle", orBad(y, x, Model.units(Model.angle(y, x))), () -> r.angle(y, x)); break;
      case 1: Check.due(when + "floatBits", orBad(y, x, Float.floatToIntBits((float) Model.angle(y, x))),
          () -> r.floatBits(y, x)); break;
      case 2: Check.due(when + "axisBits", Double.doubleToLongBits(-Math.PI / 2), () -> r.axisBits(-127, 128)); break;
      case 3: Check.due(when + "quarter", 2, () -> r.quarter(128, -1)); break;
      case 4: Check.due(when + "order", -1, () -> r.order(128, -1, 0, -1)); break;
      case 5: Check.due(when + "isMirrored", orBad(y, x, true), () -> r.isMirrored(y, x)); break;
      case 6: Check.due(when + "isQuotient", true, () -> r.isQuotient(128, 127)); break;
      case 7: Check.due(when + "isReduced", orBad(y, x, true), () -> r.isReduced(y, x)); break;
      case 8: case 20: putMark(when, a, b, r, m); break;
      case 9: putMark(when, -a, -b, r, m); break;
      case 10: takeMark(when, turn % 5, r, m); break;
      case 11: Check.due(when + "marks", m.marks.size(), r::marks); break;
      case 12: Check.due(when + "inSector", m.inSector(1, -2, -2, 4), () -> r.inSector(1, -2, -2, 4)); break;
      case 13: Check.due(when + "opposites", m.opposites(), r::opposites); break;
      case 14: Check.due(when + "isOneSided", m.isOneSided(), r::isOneSided); break;
      case 15: Check.due(when + "sum", m.sum(), r::sum); break;
      case 16: case 21: oneCorner(when, a, b, r, m); break;
      case 17: oneShift(when, turn % 4, b, a, r, m); break;
      case 18: oneDrop(when, turn, r, m); break;
      case 19: Check.due(when + "isOn", m.isOn(a, b), () -> r.isOn(a, b)); break;
      case 22: Check.due(when + "winding", orState(m.winding(a, b)), () -> r.winding(a, b)); break;
      case 23: Check.due(when + "turning", orState(m.turning()), r::turning); break;
      case 24: oneHull(when, turn % 5, r, m); break;
      default:
        Check.due(when + "checksum", m.checksum(), r::checksum);
        break;
    }
  }

  private static Object orBad(int y, int x, Object answer) {
    return isPair(new int[] {y, x}) ? answer : Check.BAD;
  }

  private static void putMark(String when, int y, int x, Bearingrose r, Model m) {
    boolean isFull = m.marks.size() == 24;
    Object want = y == 0 && x == 0 ? Check.BAD : isFull ? Check.STATE : m.mark(y, x);
    Check.due(when + "mark", want, () -> r.mark(y, x));
  }

  private static void takeMark(String when, int place, Bearingrose r, Model m) {
    boolean isThere = place < m.marks.size();
    if (place < 2) {
      Check.due(when + "take", isThere ? m.marks.remove(place)[0] : Check.INDEX, () -> r.take(place));
    } else {
      Check.due(when + "markAt", isThere ? m.marks.get(place)[0] : Check.INDEX, () -> r.markAt(place));
    }
  }

  private static void oneCorner(String when, int x, int y, Bearingrose r, Model m) {
    Object want = Check.STATE;
    if (m.corners.size() < 16) {
      m.corners.add(new int[] {x, y});
      want = m.corners.size();
    }
    Check.due(when + "corner", want, () -> r.corner(x, y));
  }

  private static void oneShift(String when, int corner, int x, int y, Bearingrose r, Model m) {
    Object want = Check.INDEX;
    if (corner < m.corners.size()) {
      int[] before = m.corners.set(corner, new int[] {x, y});
      want = before[0] != x || before[1] != y;
    }
    Check.due(when + "shift", want, () -> r.shift(corner, x, y));
  }

  private static void oneDrop(String when, int turn, Bearingrose r, Model m) {
    int size = m.corners.size();
    if (turn % 4 != 0 && size > 0) {
      Check.due(when + "isTrue", true, r::isTrue);
      return;
    }
    if (size > 0) m.corners.remove(size - 1);
    Check.due(when + "drop", size > 0 ? size - 1 : Check.NONE, r::drop);
  }

  private static void oneHull(String when, int place, Bearingrose r, Model m) {
    List<Integer> hull = m.hull();
    if (place == 4) {
      Check.due(when + "hull", hull == null ? Check.STATE : hull.size(), r::hull);
    } else {
      Check.due(when + "hullCorner", hull == null ? Check.STATE : place < hull.size() ? hull.get(place) : Check.INDEX,
          () -> r.hullCorner(place));
    }
  }
}
