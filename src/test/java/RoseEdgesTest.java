/** The sentences of 'Rose' and of promises 10 to 17 that name a boundary case, a test for each. */
public final class RoseEdgesTest {
  private static final int[] OUTSIDE = {
    -128, -129, -256, Integer.MIN_VALUE, 128, 129, 255, 256, Integer.MAX_VALUE
  };
  private static final int[] LAST = {-127, -126, -1, 0, 1, 126, 127};
  private static final long HALF_TURN = 3294198L;

  public static void main(String[] args) {
    noneAtFirst();
    numbersOfMarks();
    wrongMarks();
    fullRose();
    numberOfTaken();
    numberOfRefused();
    risingAngles();
    likeAngles();
    noSuchPlace();
    takes();
    counts();
    sectorEnds();
    sectorOfOneDirection();
    sectorsThroughHalfATurn();
    wrongSectors();
    opposites();
    manyOpposites();
    sides();
    sidesAround();
    sums();
    Check.end("RoseEdgesTest");
  }

  /** A rose of the marks that the numbers tell by twos. */
  private static Bearingrose rose(int... numbers) {
    Bearingrose r = new Bearingrose();
    for (int i = 0; i < numbers.length; i += 2) r.mark(numbers[i], numbers[i + 1]);
    return r;
  }

  private static void places(Bearingrose r, int... want) {
    Check.due("marks", want.length, r::marks);
    for (int i = 0; i < want.length; i++) {
      int place = i;
      Check.due("markAt(" + i + ")", want[i], () -> r.markAt(place));
    }
    Check.due("markAt(" + want.length + ")", Check.INDEX, () -> r.markAt(want.length));
  }

  private static void noneAtFirst() {
    Check.sentence("Rose: none at first");
    places(rose());
    Check.sentence("10 mark: the first one ever has the number 0");
    Check.due("the first one", 0, () -> rose().mark(-127, 127));
  }

  private static void numbersOfMarks() {
    Check.sentence("Rose: a mark is a pair of numbers from -127 to 127, not both 0");
    for (int y : LAST) {
      for (int x : LAST) {
        boolean isMark = y != 0 || x != 0;
        Bearingrose r = new Bearingrose();
        Check.due("mark(" + y + ", " + x + ")", isMark ? 0 : Check.BAD, () -> r.mark(y, x));
        Check.due("its angle", isMark ? Model.units(Model.angle(y, x)) : 0L, r::sum);
      }
    }
  }

  private static void wrongMarks() {
    Check.sentence("10 mark: throws if a number is not from -127 to 127");
    Bearingrose r = new Bearingrose();
    for (int bad : OUTSIDE) {
      for (int good : LAST) {
        Check.due("mark(" + bad + ", " + good + ")", Check.BAD, () -> r.mark(bad, good));
        Check.due("mark(" + good + ", " + bad + ")", Check.BAD, () -> r.mark(good, bad));
      }
      Check.due("mark(" + bad + ", " + bad + ")", Check.BAD, () -> r.mark(bad, bad));
    }
    Check.sentence("10 mark: throws if both are 0");
    Check.due("mark(0, 0)", Check.BAD, () -> r.mark(0, 0));
    places(r);
  }

  private static Bearingrose full() {
    Bearingrose r = new Bearingrose();
    for (int i = 0; i < 24; i++) r.mark(i - 12, 5);
    return r;
  }

  private static void fullRose() {
    Check.sentence("10 mark: throws IllegalStateException if the rose has 24 marks");
    Bearingrose r = new Bearingrose();
    for (int i = 0; i < 24; i++) {
      int number = i;
      Check.due("mark " + i, number, () -> r.mark(1, number - 12));
    }
    Check.due("the 25th one", Check.STATE, () -> r.mark(1, 1));
    Check.due("again", Check.STATE, () -> r.mark(-127, -127));
    Check.due("marks", 24, r::marks);
    Check.due("the last place", 0, () -> r.markAt(23));
    r.take(23);
    Check.due("when one is taken there is room", 24, () -> r.mark(1, 1));
    Check.due("and no more", Check.STATE, () -> r.mark(1, 1));
    Check.sentence("10 mark: wrong numbers go ahead of a full rose");
    Check.due("mark(128, 0)", Check.BAD, () -> r.mark(128, 0));
    Check.due("mark(0, -128)", Check.BAD, () -> r.mark(0, -128));
    Check.due("mark(0, 0)", Check.BAD, () -> r.mark(0, 0));
  }

  private static void numberOfTaken() {
    Check.sentence("10 mark: one more than that of the mark put in before it, also if that one was taken");
    Bearingrose r = rose(1, 1);
    r.take(0);
    Check.due("the only one was taken", 1, () -> r.mark(1, 1));
    Check.due("it stands there", 1, () -> r.markAt(0));
    Check.due("the next one", 2, () -> r.mark(2, 1));
    r.take(1);
    Check.due("the last one was taken", 3, () -> r.mark(3, 1));
    r.take(0);
    Check.due("another one was taken", 4, () -> r.mark(4, 1));
    r.take(0);
    r.take(0);
    Check.due("all were taken", 5, () -> r.mark(5, 1));
    Check.due("one mark", 1, r::marks);
  }

  private static void numberOfRefused() {
    Check.sentence("10 mark: what was refused has no number");
    Bearingrose few = rose(1, 1);
    Check.due("wrong", Check.BAD, () -> few.mark(0, 0));
    Check.due("too large", Check.BAD, () -> few.mark(128, 1));
    Check.due("the next one", 1, () -> few.mark(1, 1));
    Bearingrose many = full();
    Check.due("one too many", Check.STATE, () -> many.mark(1, 1));
    many.take(7);
    Check.due("the next one behind a full rose", 24, () -> many.mark(1, 1));
  }

  private static void risingAngles() {
    Check.sentence("Rose: places from 0 by rising angles");
    Bearingrose r = rose(0, -1, 0, 1, -1, -127, 1, 0, -1, 0, -1, 127, 1, 127, 1, -127);
    places(r, 2, 4, 5, 1, 6, 3, 7, 0);
    Check.sentence("Rose: half a turn is last, one step further on is first");
    places(rose(0, -127, -1, -127), 1, 0);
    places(rose(-1, -127, 0, -127), 0, 1);
    Check.sentence("Rose: directions next to one another");
    places(rose(126, 127, 125, 126), 1, 0);
    places(rose(125, 126, 126, 127), 0, 1);
    places(rose(-126, 127, -125, 126), 0, 1);
  }

  private static void likeAngles() {
    Check.sentence("Rose: those of like angles by rising numbers");
    Bearingrose r = rose(2, 4, 1, 2, 63, 126, 1, 1, 3, 6, 1, 127);
    places(r, 5, 0, 1, 2, 4, 3);
    Check.due("take(1)", 0, () -> r.take(1));
    Check.due("the next one", 6, () -> r.mark(2, 4));
    places(r, 5, 1, 2, 4, 6, 3);
    Bearingrose half = rose(0, -1, 0, -127, 0, -5);
    places(half, 0, 1, 2);
    half.take(0);
    half.mark(0, -1);
    places(half, 1, 2, 3);
    Bearingrose same = new Bearingrose();
    for (int i = 0; i < 24; i++) same.mark(0, i + 1);
    places(same, 0, 1, 2, 3, 4, 5, 6, 7, 8, 9, 10, 11, 12, 13, 14, 15, 16, 17, 18, 19, 20, 21, 22, 23);
  }

  private static void noSuchPlace() {
    int[] never = {-1, -2, -24, Integer.MIN_VALUE, Integer.MAX_VALUE, 24, 25};
    for (int size = 0; size <= 24; size++) {
      Bearingrose r = new Bearingrose();
      for (int i = 0; i < size; i++) r.mark(i - 12, 5);
      int behind = size;
      Check.sentence("11 take: throws if there is no such place");
      for (int place : never) Check.due(size + " marks, take(" + place + ")", Check.INDEX, () -> r.take(place));
      Check.due("take(" + size + ")", Check.INDEX, () -> r.take(behind));
      Check.sentence("12 markAt: throws if there is no such place");
      for (int place : never) Check.due(size + " marks, markAt(" + place + ")", Check.INDEX, () -> r.markAt(place));
      Check.due("markAt(" + size + ")", Check.INDEX, () -> r.markAt(behind));
      Check.sentence("13 marks: 0 to 24");
      Check.due(size + " marks", size, r::marks);
      if (size == 0) continue;
      Check.sentence("12 markAt: its place by angle, from 0");
      Check.due("markAt(0)", 0, () -> r.markAt(0));
      Check.due("the last one of " + size, size - 1, () -> r.markAt(behind - 1));
      Check.sentence("11 take: its place by angle, from 0");
      Check.due("the last one of " + size, size - 1, () -> r.take(behind - 1));
      Check.due("no longer there", Check.INDEX, () -> r.markAt(behind - 1));
    }
  }

  private static void takes() {
    Check.sentence("11 take: returns its number, the others keep their order");
    Bearingrose first = rose(3, 1, 2, 1, 1, 1);
    Check.due("the first", 2, () -> first.take(0));
    places(first, 1, 0);
    Bearingrose middle = rose(3, 1, 2, 1, 1, 1);
    Check.due("the middle one", 1, () -> middle.take(1));
    places(middle, 2, 0);
    Bearingrose last = rose(3, 1, 2, 1, 1, 1);
    Check.due("the last", 0, () -> last.take(2));
    places(last, 2, 1);
    Check.due("its angle is gone", Model.units(Model.angle(1, 1)) + Model.units(Model.angle(2, 1)), last::sum);
    Bearingrose many = full();
    for (int i = 0; i < 24; i++) {
      int number = i;
      Check.due("always the first one", number, () -> many.take(0));
    }
    Check.due("none is left", Check.INDEX, () -> many.take(0));
  }

  private static void counts() {
    Check.sentence("13 marks: 0 to 24");
    Bearingrose r = new Bearingrose();
    for (int i = 0; i < 24; i++) {
      r.mark(5, i);
      Check.due("rising", i + 1, r::marks);
    }
    for (int i = 23; i >= 0; i--) {
      r.take(i / 2);
      Check.due("falling", i, r::marks);
    }
  }

  private static void sector(Bearingrose r, int want, int y, int x, int v, int u) {
    Check.due("inSector(" + y + ", " + x + ", " + v + ", " + u + ")", want, () -> r.inSector(y, x, v, u));
  }

  private static void sectorEnds() {
    Check.sentence("14 inSector: those of both directions, too");
    Bearingrose r = rose(1, 2, 2, 1, 1, 1);
    sector(r, 3, 1, 2, 2, 1);
    sector(r, 3, 2, 4, 126, 63);
    sector(r, 2, 63, 125, 2, 1);
    sector(r, 2, 1, 2, 125, 63);
    sector(r, 1, 63, 125, 125, 63);
    sector(r, 2, 2, 1, 1, 2);
    sector(r, 0, 127, 63, 63, 127);
    Check.sentence("14 inSector: no marks");
    sector(rose(), 0, 1, 1, -1, -1);
    sector(rose(), 0, 1, 1, 1, 1);
    Check.sentence("14 inSector: all marks");
    sector(full(), 24, -12, 5, 11, 5);
    sector(full(), 22, -11, 5, 10, 5);
  }

  private static void sectorOfOneDirection() {
    Check.sentence("14 inSector: if both directions are alike, they are those of this one direction");
    Bearingrose r = rose(1, 2, 3, 6, 1, 1, -1, -2, 0, -1, 0, -127, 0, 1);
    sector(r, 2, 1, 2, 1, 2);
    sector(r, 2, 1, 2, 63, 126);
    sector(r, 1, -2, -4, -1, -2);
    sector(r, 2, 0, -1, 0, -1);
    sector(r, 2, 0, -1, 0, -99);
    sector(r, 1, 0, 5, 0, 1);
    sector(r, 0, -1, 2, -1, 2);
    sector(r, 0, 126, 127, 126, 127);
    sector(r, 0, -1, -127, -1, -127);
    Check.sentence("14 inSector: nearly all round, as the directions are not alike");
    sector(r, 7, 126, 127, 125, 126);
  }

  private static void sectorsThroughHalfATurn() {
    Check.sentence("14 inSector: from the one direction anticlockwise to the other");
    Bearingrose r = rose(0, -1, -1, -127, 1, -127, 0, 1, 1, 0, -1, 0);
    sector(r, 1, 0, -5, 0, -3);
    sector(r, 2, 0, -1, -1, -127);
    sector(r, 3, 1, -127, -1, -127);
    sector(r, 2, 1, -127, 0, -1);
    sector(r, 6, -1, -127, 0, -1);
    sector(r, 5, -1, -127, 1, -127);
    sector(r, 6, 0, -1, 1, -127);
    sector(r, 4, 0, 1, 0, -1);
    sector(r, 4, 0, -1, 0, 1);
    sector(r, 5, 1, 0, -1, 0);
    sector(r, 3, -1, 0, 1, 0);
  }

  private static void wrongSectors() {
    Check.sentence("14 inSector: throws if a number is not from -127 to 127");
    Bearingrose r = rose(1, 1);
    for (int bad : OUTSIDE) {
      Check.due("y " + bad, Check.BAD, () -> r.inSector(bad, 1, 1, 1));
      Check.due("x " + bad, Check.BAD, () -> r.inSector(1, bad, 1, 1));
      Check.due("v " + bad, Check.BAD, () -> r.inSector(1, 1, bad, 1));
      Check.due("u " + bad, Check.BAD, () -> r.inSector(1, 1, 1, bad));
    }
    Check.sentence("14 inSector: throws if both of a pair are 0");
    Check.due("the first", Check.BAD, () -> r.inSector(0, 0, 1, 1));
    Check.due("the second", Check.BAD, () -> r.inSector(1, 1, 0, 0));
    Check.due("both", Check.BAD, () -> r.inSector(0, 0, 0, 0));
    Check.due("the zeros of two pairs", 1, () -> r.inSector(0, 1, 1, 0));
    Check.sentence("14 inSector: numbers from -127 to 127");
    sector(r, 1, -127, 127, 127, -127);
    sector(r, 1, 127, 127, 127, 127);
    sector(r, 0, -127, -127, -127, 127);
  }

  private static void oppositesOf(int want, int... numbers) {
    Check.due("opposites", want, rose(numbers)::opposites);
  }

  private static void opposites() {
    Check.sentence("15 opposites: of less than two marks there are none");
    oppositesOf(0);
    oppositesOf(0, 1, 1);
    Check.sentence("15 opposites: each two counted once");
    oppositesOf(1, 1, 1, -1, -1);
    oppositesOf(1, -1, -1, 1, 1);
    oppositesOf(1, 2, 4, -63, -126);
    Check.sentence("15 opposites: along an axis");
    oppositesOf(1, 0, 1, 0, -127);
    oppositesOf(1, 127, 0, -1, 0);
    Check.sentence("15 opposites: just away from each other, not nearly");
    oppositesOf(0, 126, 127, -125, -126);
    oppositesOf(0, 1, -127, 0, 1);
    oppositesOf(0, -1, -127, 0, 1);
    Check.sentence("15 opposites: like or crosswise ones are none");
    oppositesOf(0, 1, 2, 2, 4);
    oppositesOf(0, 1, 0, 0, 1);
    oppositesOf(0, 3, 4, -4, 3);
    Check.sentence("15 opposites: mirrored ones are none");
    oppositesOf(0, 1, 2, -1, 2);
    oppositesOf(0, 1, 2, 1, -2);
  }

  private static void manyOpposites() {
    Check.sentence("15 opposites: how many pairs of two marks");
    oppositesOf(2, 1, 1, -1, -1, 2, 2);
    oppositesOf(4, 1, 1, -1, -1, 2, 2, -2, -2);
    Bearingrose r = new Bearingrose();
    for (int i = 1; i <= 12; i++) {
      r.mark(i, -2 * i);
      r.mark(-i, 2 * i);
    }
    Check.due("twelve to twelve", 144, r::opposites);
    r.take(0);
    Check.due("eleven to twelve", 132, r::opposites);
  }

  private static void sideOf(boolean want, int... numbers) {
    Check.due("isOneSided", want, rose(numbers)::isOneSided);
  }

  private static void sides() {
    Check.sentence("16 isOneSided: true, if there are no marks");
    sideOf(true);
    Bearingrose emptied = rose(0, 1, 0, -1);
    emptied.take(0);
    emptied.take(0);
    Check.due("all were taken", true, emptied::isOneSided);
    Check.sentence("16 isOneSided: one mark, or several of one direction");
    sideOf(true, 0, -1);
    sideOf(true, -127, 127, -1, 1, -5, 5);
    Check.sentence("16 isOneSided: none on it, so that half a turn is too much");
    sideOf(false, 0, 1, 0, -1);
    sideOf(false, 1, 0, -127, 0);
    sideOf(false, 3, 4, -6, -8);
    sideOf(false, 0, 1, 1, 0, 0, -1);
    sideOf(false, 0, 1, -1, 0, 0, -1);
    Check.sentence("16 isOneSided: nearly half a turn is not too much");
    sideOf(true, 0, 1, 1, -127);
    sideOf(true, 0, 1, -1, -127);
    sideOf(true, 126, 127, -125, -126);
    sideOf(true, 125, 126, -126, -127);
  }

  private static void sidesAround() {
    Check.sentence("16 isOneSided: all marks on one side");
    sideOf(true, 0, 1, 1, 1, 1, 0, 1, -1);
    sideOf(false, 0, 1, 1, -1, -1, -1);
    sideOf(false, 0, 1, 1, -127, -1, -126);
    sideOf(true, 0, 1, 1, -126, 1, -127);
    sideOf(false, 1, 0, -1, 1, -1, -1);
    Check.sentence("16 isOneSided: around half a turn");
    sideOf(true, 1, -1, 0, -1, -1, -1);
    sideOf(true, 127, -1, -127, -1);
    sideOf(false, 127, -1, -127, -1, 0, 1);
    sideOf(false, 1, 0, 0, -1, -1, 0);
    Check.sentence("16 isOneSided: a full rose");
    Check.due("on one side", true, full()::isOneSided);
    Bearingrose around = full();
    around.take(0);
    around.mark(0, -1);
    Check.due("around", false, around::isOneSided);
  }

  private static void sums() {
    Check.sentence("17 sum: 0, if there are none");
    Check.due("none", 0L, rose()::sum);
    Bearingrose emptied = rose(1, 1);
    emptied.take(0);
    Check.due("none left", 0L, emptied::sum);
    Check.sentence("17 sum: each rounded down");
    Check.due("one below 0", -1647100L, rose(-1, 0)::sum);
    Check.due("a pair and its mirror", -1L, rose(1, 1, -1, 1)::sum);
    Check.due("two pairs and their mirrors", -2L, rose(1, 1, -1, 1, 2, 1, -2, 1)::sum);
    Check.due("a nought", 0L, rose(0, 127)::sum);
    Check.due("half a turn is above 0", HALF_TURN, rose(0, -127)::sum);
    Bearingrose many = new Bearingrose();
    for (int i = 0; i < 24; i++) many.mark(0, -1);
    Check.due("24 half turns", 24 * HALF_TURN, many::sum);
  }
}
