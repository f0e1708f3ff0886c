/** Promises 1, 26 and 27: a new object, isTrue and checksum. */
public final class AllTest {
  public static void main(String[] args) {
    newObject();
    writtenOut();
    truth();
    Check.end("AllTest");
  }

  private static void newObject() {
    Bearingrose a = new Bearingrose();
    Check.due("checksum of none", 217L, a::checksum);
    Check.due("isTrue of none", true, a::isTrue);
    Check.due("marks of none", 0, a::marks);
    Check.due("isOn of none", false, () -> a.isOn(0, 0));
    a.mark(1, 1);
    a.corner(1, 1);
    Bearingrose b = new Bearingrose();
    Check.due("one object is not another", 217L, b::checksum);
    Check.due("its first number", 0, () -> b.mark(1, 1));
    Check.due("its first corner", 1, () -> b.corner(1, 1));
  }

  private static void writtenOut() {
    Bearingrose a = new Bearingrose();
    a.mark(1, 1);
    Check.due("a mark", (7L * 31 * 31 + 823549L) * 31, a::checksum);
    a.corner(2, -3);
    Check.due("and a corner", (((7L * 31 * 31 + 823549L) * 31 + 2) * 31 - 3) * 31, a::checksum);
    Bearingrose b = new Bearingrose();
    b.corner(0, 0);
    b.corner(1, 0);
    b.corner(0, 1);
    long corners = 7;
    for (int number : new int[] {0, 0, 1, 0, 0, 1, 3}) corners = 31 * corners + number;
    Check.due("a polygon", corners, b::checksum);
    Bearingrose c = new Bearingrose();
    c.mark(0, -1);
    c.mark(0, 1);
    Check.due("in the order of places", (((7L * 31 + 1) * 31) * 31 * 31 + 3294198L) * 31, c::checksum);
  }

  private static void truth() {
    Bearingrose a = new Bearingrose();
    for (int i = 0; i < 24; i++) a.mark(i % 7 * 21 - 63, i % 5 * 25 - 51);
    for (int i = 0; i < 16; i++) a.corner(i * 37 % 127 - 63, i * 53 % 127 - 63);
    long before = a.checksum();
    Check.due("isTrue of all", true, a::isTrue);
    Check.due("isTrue changes nothing", before, a::checksum);
    Check.due("hullCorner and hull change nothing", before, () -> {
      a.hull();
      a.hullCorner(0);
      return a.checksum();
    });
  }
}
