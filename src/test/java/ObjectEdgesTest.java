import java.math.BigInteger;
import java.util.ArrayList;
import java.util.List;

/**
 * The sentences of 'What it is', of 'Exceptions' and of promises 1, 26 and 27 that name a boundary
 * case, a test for each.
 */
public final class ObjectEdgesTest {
  private static final int MOST_CALLS = 512;

  /** A call of the face. */
  interface ObjectCall {
    Object of(Bearingrose r);
  }

  public static void main(String[] args) {
    newObject();
    objectsApart();
    lastCallOfAnswers();
    lastCallOfChanges();
    lastCallOfRefusals();
    refusalsOfAnyKind();
    refusalsAtTheFull();
    firstDocumented();
    trueOfFew();
    trueOnTheWalk();
    trueOfLikeMarks();
    trueOfTheFull();
    sevenAtFirst();
    marksSummed();
    cornersSummed();
    polygonSummed();
    goingRound();
    Check.end("ObjectEdgesTest");
  }

  private static void newObject() {
    Check.sentence("1: an empty rose");
    Bearingrose r = new Bearingrose();
    Check.due("marks", 0, r::marks);
    Check.due("markAt(0)", Check.INDEX, () -> r.markAt(0));
    Check.due("take(0)", Check.INDEX, () -> r.take(0));
    Check.due("sum", 0L, r::sum);
    Check.due("opposites", 0, r::opposites);
    Check.due("inSector", 0, () -> r.inSector(0, 1, 0, 1));
    Check.due("isOneSided", true, r::isOneSided);
    Check.sentence("1: a walk without corners");
    Check.due("drop", Check.NONE, r::drop);
    Check.due("shift(0)", Check.INDEX, () -> r.shift(0, 0, 0));
    Check.due("isOn", false, () -> r.isOn(0, 0));
    Check.due("winding", 0, () -> r.winding(0, 0));
    Check.due("turning", Check.STATE, r::turning);
    Check.due("hull", Check.STATE, r::hull);
    Check.due("hullCorner(0)", Check.STATE, () -> r.hullCorner(0));
    Check.due("the first mark", 0, () -> r.mark(1, 1));
    Check.due("the first corner", 1, () -> r.corner(0, 0));
  }

  private static void objectsApart() {
    Check.sentence("1: another object's marks and corners are not in it");
    Bearingrose full = full();
    Bearingrose r = new Bearingrose();
    Check.due("marks", 0, r::marks);
    Check.due("the first mark", 0, () -> r.mark(-1, 0));
    Check.due("the first corner", 1, () -> r.corner(63, 63));
    Check.due("the other one's last mark", 23, () -> full.markAt(23));
    Check.due("the other one's marks", 24, full::marks);
    Check.due("the other one's corners", 15, full::drop);
  }

  /** 24 marks by rising angles and 16 corners, of which no two sides point just away. */
  private static Bearingrose full() {
    Bearingrose r = new Bearingrose();
    for (int i = 0; i < 24; i++) r.mark(i - 12, 5);
    int[] walk = {4, 0, 7, 0, 10, 1, 12, 3, 13, 6, 13, 9, 12, 12, 10, 14,
        7, 15, 4, 15, 1, 14, -1, 12, -2, 9, -2, 6, -1, 3, 1, 1};
    for (int i = 0; i < walk.length; i += 2) r.corner(walk[i], walk[i + 1]);
    return r;
  }

  private static void lastCall(String call, Object want, int before, Bearingrose r, ObjectCall asked) {
    for (int i = before + 1; i < MOST_CALLS; i++) asked.of(r);
    Check.due(call, want, () -> asked.of(r));
  }

  private static void lastCallOfAnswers() {
    Check.sentence("What it is: at most 512 calls, the last of which answers as the first does");
    lastCall("angle", 823549L, 0, new Bearingrose(), r -> r.angle(1, 1));
    lastCall("floatBits", 0x3F490FDB, 0, new Bearingrose(), r -> r.floatBits(1, 1));
    lastCall("axisBits", Long.MIN_VALUE, 0, new Bearingrose(), r -> r.axisBits(128, 1));
    lastCall("quarter", 3, 0, new Bearingrose(), r -> r.quarter(-1, 1));
    lastCall("order", 1, 0, new Bearingrose(), r -> r.order(2, 1, 1, 1));
    lastCall("isMirrored", true, 0, new Bearingrose(), r -> r.isMirrored(0, -1));
    lastCall("isQuotient", true, 0, new Bearingrose(), r -> r.isQuotient(3, 1));
    lastCall("isReduced", true, 0, new Bearingrose(), r -> r.isReduced(126, -84));
    lastCall("markAt", 23, 40, full(), r -> r.markAt(23));
    lastCall("marks", 24, 40, full(), Bearingrose::marks);
    lastCall("inSector", 24, 40, full(), r -> r.inSector(-1, 0, 1, 0));
    lastCall("opposites", 0, 40, full(), Bearingrose::opposites);
    lastCall("isOneSided", true, 40, full(), Bearingrose::isOneSided);
    lastCall("sum", full().sum(), 40, full(), Bearingrose::sum);
    lastCall("isOn", true, 40, full(), r -> r.isOn(1, 1));
    lastCall("winding", 1, 40, full(), r -> r.winding(5, 5));
    lastCall("turning", 1, 40, full(), Bearingrose::turning);
    lastCall("hull", 16, 40, full(), Bearingrose::hull);
    lastCall("hullCorner", 15, 40, full(), r -> r.hullCorner(15));
    lastCall("isTrue", true, 40, full(), Bearingrose::isTrue);
    lastCall("checksum", full().checksum(), 40, full(), Bearingrose::checksum);
  }

  private static void lastCallOfChanges() {
    Check.sentence("What it is: 512 calls that change it");
    Bearingrose marked = new Bearingrose();
    for (int i = 0; i < MOST_CALLS / 2 - 1; i++) {
      int number = i;
      Check.due("mark", number, () -> marked.mark(1, number % 127));
      Check.due("take", number, () -> marked.take(0));
    }
    Check.due("the 511th call", 255, () -> marked.mark(127, 127));
    Check.due("the 512th call", 255, () -> marked.take(0));
    Bearingrose walked = new Bearingrose();
    for (int i = 0; i < MOST_CALLS / 2 - 1; i++) {
      Check.due("corner", 1, () -> walked.corner(1, 1));
      Check.due("drop", 0, walked::drop);
    }
    Check.due("the 511th call", 1, () -> walked.corner(0, 0));
    Check.due("the 512th call", true, () -> walked.shift(0, 1, 0));
  }

  private static void lastCallOfRefusals() {
    Check.sentence("What it is: 512 calls, all but the last one refused");
    Bearingrose r = new Bearingrose();
    for (int i = 0; i < MOST_CALLS - 2; i++) {
      int turn = i;
      Check.due("refused " + turn % 3, new String[] {Check.BAD, Check.INDEX, Check.NONE}[turn % 3],
          () -> turn % 3 == 0 ? r.mark(0, 0) : turn % 3 == 1 ? r.take(0) : r.drop());
    }
    Check.due("the 511th call", 0, () -> r.mark(1, 1));
    Check.due("the 512th call", 1, r::marks);
  }

  private static void same(String when, Bearingrose r, Bearingrose other) {
    Check.due(when + ": checksum", other.checksum(), r::checksum);
    Check.due(when + ": marks", other.marks(), r::marks);
    Check.due(when + ": sum", other.sum(), r::sum);
    Check.due(when + ": opposites", other.opposites(), r::opposites);
    Check.due(when + ": isOn", other.isOn(1, 1), () -> r.isOn(1, 1));
    for (int i = 0; i < other.marks(); i++) {
      int place = i;
      Check.due(when + ": markAt(" + i + ")", other.markAt(place), () -> r.markAt(place));
    }
  }

  /** Calls that each object with at least one corner refuses, whatever else it has. */
  private static void refuseAll(Bearingrose r) {
    Check.due("angle", Check.BAD, () -> r.angle(0, 0));
    Check.due("floatBits", Check.BAD, () -> r.floatBits(129, 1));
    Check.due("axisBits", Check.STATE, () -> r.axisBits(1, 1));
    Check.due("quarter", Check.BAD, () -> r.quarter(-128, 1));
    Check.due("order", Check.BAD, () -> r.order(1, 1, 0, 128));
    Check.due("isMirrored", Check.BAD, () -> r.isMirrored(0, 0));
    Check.due("isQuotient", Check.STATE, () -> r.isQuotient(1, 0));
    Check.due("isReduced", Check.BAD, () -> r.isReduced(128, 128));
    Check.due("mark of both 0", Check.BAD, () -> r.mark(0, 0));
    Check.due("mark too large", Check.BAD, () -> r.mark(1, 128));
    Check.due("take too small", Check.INDEX, () -> r.take(-1));
    Check.due("take too large", Check.INDEX, () -> r.take(24));
    Check.due("markAt", Check.INDEX, () -> r.markAt(24));
    Check.due("inSector", Check.BAD, () -> r.inSector(0, 0, 1, 1));
    Check.due("corner", Check.BAD, () -> r.corner(0, 64));
    Check.due("shift too small", Check.INDEX, () -> r.shift(-1, 0, 0));
    Check.due("shift too large", Check.INDEX, () -> r.shift(16, 0, 0));
    Check.due("shift of a good x alone", Check.BAD, () -> r.shift(0, 0, 64));
    Check.due("shift of a good y alone", Check.BAD, () -> r.shift(0, 64, 0));
    Check.due("isOn", Check.BAD, () -> r.isOn(0, -64));
    Check.due("winding", Check.BAD, () -> r.winding(64, 0));
  }

  private static Bearingrose some() {
    Bearingrose r = new Bearingrose();
    r.mark(1, 1);
    r.mark(-1, -1);
    r.mark(0, -1);
    r.corner(1, 1);
    r.corner(5, 5);
    return r;
  }

  private static void refusalsOfAnyKind() {
    Check.sentence("Exceptions: a method that throws changes nothing");
    Bearingrose r = some();
    Bearingrose other = some();
    refuseAll(r);
    Check.due("take behind the last", Check.INDEX, () -> r.take(3));
    Check.due("shift behind the last", Check.INDEX, () -> r.shift(2, 0, 0));
    Check.due("winding on the walk", Check.STATE, () -> r.winding(3, 3));
    Check.due("turning", Check.STATE, r::turning);
    Check.due("hull", Check.STATE, r::hull);
    Check.due("hullCorner", Check.STATE, () -> r.hullCorner(0));
    same("some", r, other);
    Check.due("the next mark", other.mark(2, 2), () -> r.mark(2, 2));
    Check.due("the next corner", other.corner(9, 0), () -> r.corner(9, 0));
    Check.due("hullCorner behind the last", Check.INDEX, () -> r.hullCorner(3));
    same("and more", r, other);
    Bearingrose none = new Bearingrose();
    Check.due("drop of none", Check.NONE, none::drop);
    Check.due("take of none", Check.INDEX, () -> none.take(0));
    same("none", none, new Bearingrose());
    Check.due("the first mark", 0, () -> none.mark(2, 2));
    Check.due("the first corner", 1, () -> none.corner(2, 2));
  }

  private static void refusalsAtTheFull() {
    Check.sentence("Exceptions: a method that throws changes nothing, of a full object");
    Bearingrose r = full();
    Bearingrose other = full();
    refuseAll(r);
    Check.due("one mark too many", Check.STATE, () -> r.mark(1, 1));
    Check.due("one corner too many", Check.STATE, () -> r.corner(1, 1));
    Check.due("hullCorner behind the last", Check.INDEX, () -> r.hullCorner(16));
    same("full", r, other);
    Check.due("take", other.take(3), () -> r.take(3));
    Check.due("the next mark", other.mark(1, 1), () -> r.mark(1, 1));
    Check.due("drop", other.drop(), r::drop);
    Check.due("the next corner", other.corner(1, 1), () -> r.corner(1, 1));
    same("full again", r, other);
  }

  private static void firstDocumented() {
    Check.sentence("Exceptions: the one that is documented first is thrown");
    Bearingrose full = full();
    Bearingrose none = new Bearingrose();
    Check.due("4 axisBits", Check.BAD, () -> none.axisBits(-128, 1));
    Check.due("8 isQuotient", Check.BAD, () -> none.isQuotient(0, 0));
    Check.due("8 isQuotient, too small", Check.BAD, () -> none.isQuotient(1, -128));
    Check.due("10 mark", Check.BAD, () -> full.mark(0, 0));
    Check.due("18 corner", Check.BAD, () -> full.corner(64, 0));
    Check.due("19 shift", Check.INDEX, () -> full.shift(16, 64, 64));
    Check.due("19 shift of none", Check.INDEX, () -> none.shift(0, 64, 64));
    Check.due("25 hullCorner", Check.STATE, () -> none.hullCorner(-1));
  }

  private static void truth(String when, Bearingrose r) {
    long before = r.checksum();
    Check.due(when, true, r::isTrue);
    Check.due(when + ", it changes nothing", before, r::checksum);
  }

  private static void trueOfFew() {
    Check.sentence("26 isTrue: of an empty rose and a walk without corners");
    truth("none", new Bearingrose());
    Check.sentence("26 isTrue: of one mark, with noughts, too");
    for (int y : new int[] {-127, -1, 0, 1, 127}) {
      for (int x : new int[] {-127, -1, 0, 1, 127}) {
        if (y == 0 && x == 0) continue;
        Bearingrose r = new Bearingrose();
        r.mark(y, x);
        truth("(" + y + ", " + x + ")", r);
      }
    }
  }

  private static void trueOnTheWalk() {
    Check.sentence("26 isTrue: the 25 points, those that are not on the walk");
    for (int x = -3; x <= 3; x++) {
      for (int y = -3; y <= 3; y++) {
        Bearingrose r = new Bearingrose();
        r.corner(x, y);
        truth("one corner", r);
        r.corner(-x, y);
        truth("two corners", r);
        r.corner(63, -63);
        r.corner(-63, 63);
        truth("four corners", r);
      }
    }
    Bearingrose all = new Bearingrose();
    for (int i = 0; i < 10; i++) all.corner((i + 1) % 4 < 2 ? -2 : 2, i / 2 - 2);
    for (int i = 0; i < 25; i++) {
      int point = i;
      Check.due("on the walk, " + i, true, () -> all.isOn(point % 5 - 2, point / 5 - 2));
    }
    truth("all 25 on the walk", all);
    Bearingrose box = new Bearingrose();
    for (int i = 0; i < 16; i++) box.corner((i + 1) % 4 < 2 ? -63 : 63, i % 4 < 2 ? -63 : 63);
    Check.due("four times round", 4, () -> box.winding(0, 0));
    truth("four times round all", box);
  }

  private static void trueOfLikeMarks() {
    Check.sentence("26 isTrue: two are alike as numbers just if they are so bit by bit");
    Bearingrose r = new Bearingrose();
    for (int i = 1; i <= 4; i++) {
      r.mark(0, i);
      r.mark(0, -i);
      r.mark(i, 0);
      r.mark(-i, 0);
      r.mark(i, 2 * i);
    }
    truth("like ones", r);
    Bearingrose near = new Bearingrose();
    for (int i = 104; i < 127; i++) near.mark(i, i + 1);
    truth("near ones", near);
  }

  private static void trueOfTheFull() {
    Check.sentence("26 isTrue: of 24 marks and 16 corners");
    truth("full", full());
    Bearingrose last = new Bearingrose();
    for (int i = 0; i < 24; i++) last.mark(i % 2 == 0 ? 127 - i : i - 127, i % 3 == 0 ? 127 : -127);
    for (int i = 0; i < 16; i++) last.corner(i % 2 == 0 ? 63 : -63, i % 3 == 0 ? -63 : 63);
    truth("far ones", last);
  }

  /** The sum by numbers without a bound, cut to a long at the end. */
  private static long running(List<Long> parts) {
    BigInteger sum = BigInteger.valueOf(7);
    for (long part : parts) sum = sum.multiply(BigInteger.valueOf(31)).add(BigInteger.valueOf(part));
    return sum.longValue();
  }

  private static void sums(String when, Bearingrose r, long... parts) {
    List<Long> list = new ArrayList<>();
    for (long part : parts) list.add(part);
    Check.due(when, running(list), r::checksum);
  }

  private static void sevenAtFirst() {
    Check.sentence("27 checksum: 7 at first, then 0, if hull() refuses");
    sums("none", new Bearingrose(), 0);
    Bearingrose emptied = some();
    for (int i = 0; i < 3; i++) emptied.take(0);
    emptied.drop();
    emptied.drop();
    sums("emptied", emptied, 0);
  }

  private static void marksSummed() {
    Check.sentence("27 checksum: for each mark in the order of places its number, and its angle as in sum()");
    Bearingrose r = new Bearingrose();
    r.mark(0, -1);
    sums("one", r, 0, 3294198, 0);
    r.mark(-1, 0);
    sums("rounded down, and ahead", r, 1, -1647100, 0, 3294198, 0);
    r.mark(0, 5);
    sums("a nought", r, 1, -1647100, 2, 0, 0, 3294198, 0);
    r.take(0);
    sums("one was taken", r, 2, 0, 0, 3294198, 0);
  }

  private static void cornersSummed() {
    Check.sentence("27 checksum: for each corner in order x, and then y");
    Bearingrose r = new Bearingrose();
    r.corner(-63, 63);
    sums("one", r, -63, 63, 0);
    r.corner(5, -4);
    sums("two", r, -63, 63, 5, -4, 0);
    r.mark(1, 1);
    sums("marks go first", r, 0, 823549, -63, 63, 5, -4, 0);
    r.shift(0, 4, -5);
    sums("one is elsewhere", r, 0, 823549, 4, -5, 5, -4, 0);
    r.drop();
    sums("one is dropped", r, 0, 823549, 4, -5, 0);
  }

  private static void polygonSummed() {
    Check.sentence("27 checksum: how many corners the polygon has, 0, if it refuses");
    Bearingrose r = new Bearingrose();
    r.corner(0, 0);
    r.corner(9, 0);
    r.corner(4, 0);
    sums("in one line", r, 0, 0, 9, 0, 4, 0, 0);
    r.shift(2, 4, 9);
    sums("three", r, 0, 0, 9, 0, 4, 9, 3);
    r.corner(4, 1);
    sums("three, and one inside", r, 0, 0, 9, 0, 4, 9, 4, 1, 3);
    r.shift(3, 4, -1);
    sums("four", r, 0, 0, 9, 0, 4, 9, 4, -1, 4);
  }

  private static void goingRound() {
    Check.sentence("27 checksum: a long that goes round");
    Bearingrose r = new Bearingrose();
    List<Long> parts = new ArrayList<>();
    for (int i = 0; i < 24; i++) {
      r.mark(i + 1, -127);
      // a greater y lies ahead of a lesser one there, so that each goes to the front
      parts.add(0, Model.units(Model.angle(i + 1, -127)));
      parts.add(0, (long) i);
      roundAt(r, parts);
    }
    int[] xs = {-63, 63, 63, -63};
    for (int i = 0; i < 16; i++) {
      int x = xs[i % 4];
      int y = i % 4 < 2 ? -63 : 63;
      r.corner(x, y);
      parts.add((long) x);
      parts.add((long) y);
      if (i == 0) roundAt(r, parts);
    }
    parts.add(4L);
    Check.due("full", running(parts), r::checksum);
  }

  private static void roundAt(Bearingrose r, List<Long> parts) {
    List<Long> all = new ArrayList<>(parts);
    all.add(0L);
    Check.due(parts.size() + " parts", running(all), r::checksum);
  }
}
