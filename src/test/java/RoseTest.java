/** Promises 1 and 10 to 17: the rose. */
public final class RoseTest {
  private static final int[] OUTSIDE = {-128, 128, 129, -129, Integer.MIN_VALUE, Integer.MAX_VALUE};

  public static void main(String[] args) {
    empty();
    places();
    full();
    wrongMarks();
    sectors();
    opposites();
    sides();
    sums();
    lastCall();
    Check.end("RoseTest");
  }

  private static void empty() {
    Bearingrose r = new Bearingrose();
    Check.due("empty marks", 0, r::marks);
    Check.due("empty markAt(0)", Check.INDEX, () -> r.markAt(0));
    Check.due("empty take(0)", Check.INDEX, () -> r.take(0));
    Check.due("empty inSector", 0, () -> r.inSector(0, 1, 0, -1));
    Check.due("empty opposites", 0, r::opposites);
    Check.due("empty isOneSided", true, r::isOneSided);
    Check.due("empty sum", 0L, r::sum);
  }

  private static void places() {
    Bearingrose r = new Bearingrose();
    Check.due("mark 0", 0, () -> r.mark(0, -1));
    Check.due("mark 1", 1, () -> r.mark(2, 4));
    Check.due("mark 2", 2, () -> r.mark(-1, -127));
    Check.due("mark 3", 3, () -> r.mark(1, 2));
    Check.due("mark 4", 4, () -> r.mark(0, 127));
    Check.due("mark 5", 5, () -> r.mark(63, 126));
    int[] order = {2, 4, 1, 3, 5, 0};
    for (int i = 0; i < order.length; i++) {
      int place = i;
      Check.due("markAt " + i, order[i], () -> r.markAt(place));
    }
    Check.due("markAt(6)", Check.INDEX, () -> r.markAt(6));
    Check.due("markAt(-1)", Check.INDEX, () -> r.markAt(-1));
    Check.due("markAt least", Check.INDEX, () -> r.markAt(Integer.MIN_VALUE));
    Check.due("markAt greatest", Check.INDEX, () -> r.markAt(Integer.MAX_VALUE));
    Check.due("take(6)", Check.INDEX, () -> r.take(6));
    Check.due("take(-1)", Check.INDEX, () -> r.take(-1));
    Check.due("marks", 6, r::marks);
    Check.due("take(5)", 0, () -> r.take(5));
    Check.due("take(2)", 1, () -> r.take(2));
    Check.due("marks", 4, r::marks);
    Check.due("markAt(2)", 3, () -> r.markAt(2));
    Check.due("markAt(3)", 5, () -> r.markAt(3));
    Check.due("a number is not used again", 6, () -> r.mark(5, 10));
    Check.due("markAt(4)", 6, () -> r.markAt(4));
  }

  private static void full() {
    Bearingrose r = new Bearingrose();
    for (int i = 0; i < 24; i++) {
      int number = i;
      Check.due("mark " + i, number, () -> r.mark(number - 12, 5));
    }
    Check.due("marks", 24, r::marks);
    long before = r.checksum();
    Check.due("the 25th mark", Check.STATE, () -> r.mark(1, 1));
    Check.due("wrong numbers go first", Check.BAD, () -> r.mark(128, 1));
    Check.due("checksum stays", before, r::checksum);
    Check.due("markAt(23)", 23, () -> r.markAt(23));
    Check.due("markAt(24)", Check.INDEX, () -> r.markAt(24));
    Check.due("take(0)", 0, () -> r.take(0));
    Check.due("a refused mark has no number", 24, () -> r.mark(-127, -1));
    Check.due("markAt(0)", 24, () -> r.markAt(0));
    Check.due("full again", Check.STATE, () -> r.mark(1, 1));
    Check.due("isTrue", true, r::isTrue);
  }

  private static void wrongMarks() {
    Bearingrose r = new Bearingrose();
    for (int bad : OUTSIDE) {
      Check.due("mark y", Check.BAD, () -> r.mark(bad, 1));
      Check.due("mark x", Check.BAD, () -> r.mark(1, bad));
      Check.due("inSector y", Check.BAD, () -> r.inSector(bad, 1, 1, 1));
      Check.due("inSector x", Check.BAD, () -> r.inSector(1, bad, 1, 1));
      Check.due("inSector v", Check.BAD, () -> r.inSector(1, 1, bad, 1));
      Check.due("inSector u", Check.BAD, () -> r.inSector(1, 1, 1, bad));
    }
    Check.due("mark(0, 0)", Check.BAD, () -> r.mark(0, 0));
    Check.due("mark(0, 128)", Check.BAD, () -> r.mark(0, 128));
    Check.due("inSector first", Check.BAD, () -> r.inSector(0, 0, 1, 1));
    Check.due("inSector second", Check.BAD, () -> r.inSector(1, 1, 0, 0));
    Check.due("nothing was put in", 0, r::marks);
    Check.due("the first number", 0, () -> r.mark(127, -127));
    Check.due("the second number", 1, () -> r.mark(-127, 127));
  }

  private static void sectors() {
    Bearingrose r = new Bearingrose();
    r.mark(0, 1);
    r.mark(1, 0);
    r.mark(0, -1);
    r.mark(-1, 0);
    r.mark(1, 1);
    Check.due("right to up", 3, () -> r.inSector(0, 2, 2, 0));
    Check.due("up to right", 4, () -> r.inSector(2, 0, 0, 2));
    Check.due("up to down", 3, () -> r.inSector(1, 0, -1, 0));
    Check.due("left alone", 1, () -> r.inSector(0, -5, 0, -1));
    Check.due("through half a turn", 1, () -> r.inSector(1, -1, -1, -1));
    Check.due("through the nought", 1, () -> r.inSector(-1, 1, 1, 127));
    Check.due("none", 0, () -> r.inSector(1, 3, 1, 2));
    Check.due("a like direction that has none", 0, () -> r.inSector(3, 4, 6, 8));
    Check.due("nearly all round", 5, () -> r.inSector(3, 4, 2, 3));
  }

  private static void opposites() {
    Bearingrose r = new Bearingrose();
    r.mark(1, 2);
    r.mark(-2, -4);
    Check.due("a pair", 1, r::opposites);
    r.mark(3, 6);
    Check.due("two to one", 2, r::opposites);
    r.mark(-3, -6);
    Check.due("two to two", 4, r::opposites);
    r.mark(0, 1);
    r.mark(0, -9);
    Check.due("along an axis", 5, r::opposites);
    r.mark(126, 127);
    r.mark(-125, -126);
    Check.due("nearly away", 5, r::opposites);
  }

  private static void sides() {
    Bearingrose r = new Bearingrose();
    r.mark(0, 1);
    Check.due("one", true, r::isOneSided);
    r.mark(1, -127);
    Check.due("nearly half a turn", true, r::isOneSided);
    r.mark(0, 5);
    Check.due("a like one", true, r::isOneSided);
    r.mark(0, -1);
    Check.due("half a turn", false, r::isOneSided);
    Bearingrose s = new Bearingrose();
    s.mark(1, -5);
    s.mark(-1, -5);
    Check.due("around half a turn", true, s::isOneSided);
    s.mark(0, 1);
    Check.due("around all", false, s::isOneSided);
    s.take(1);
    Check.due("two again", true, s::isOneSided);
  }

  private static void sums() {
    Bearingrose r = new Bearingrose();
    r.mark(-1, 0);
    Check.due("rounded down", -1647100L, r::sum);
    r.mark(-1, 0);
    Check.due("each rounded", -3294200L, r::sum);
    r.mark(0, -1);
    Check.due("with half a turn", -2L, r::sum);
  }

  /** 512 calls, the last of which still answers. */
  private static void lastCall() {
    Bearingrose r = new Bearingrose();
    for (int i = 0; i < 511; i++) {
      if (i % 2 == 0) r.mark(i % 127 + 1, -i % 100);
      else r.take(0);
    }
    Check.due("the 512th call", 255, () -> r.take(0));
  }
}
