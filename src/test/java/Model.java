import java.math.BigDecimal;
import java.math.RoundingMode;
import java.util.ArrayList;
import java.util.Comparator;
import java.util.List;

/**
 * What the document says, put in other words than Bearingrose puts it: angles by StrictMath,
 * turns by sums of angles, the polygon by a chain of points. Refusals are told by null.
 */
final class Model {
  final List<int[]> marks = new ArrayList<>();
  final List<int[]> corners = new ArrayList<>();
  int nextNumber = 0;

  static boolean isNought(int number) {
    return number == 0 || number == 128;
  }

  static double value(int number) {
    return number == 128 ? -0.0 : number;
  }

  static double angle(int y, int x) {
    return StrictMath.atan2(value(y), value(x));
  }

  static long units(double angle) {
    return new BigDecimal(angle).multiply(BigDecimal.valueOf(1 << 20))
        .setScale(0, RoundingMode.FLOOR).longValueExact();
  }

  int mark(int y, int x) {
    marks.add(new int[] {nextNumber, y, x});
    marks.sort(Comparator.<int[]>comparingDouble(m -> angle(m[1], m[2])).thenComparingInt(m -> m[0]));
    return nextNumber++;
  }

  /** Turned so that (y, x) points along x, the marks' directions from there on are compared. */
  int inSector(int y, int x, int v, int u) {
    int count = 0;
    for (int[] m : marks) {
      double end = fromStart(y, x, v, u);
      double here = fromStart(y, x, m[1], m[2]);
      if (here <= end) count++;
    }
    return count;
  }

  private static double fromStart(int y, int x, int v, int u) {
    double turned = StrictMath.atan2((double) x * v - (double) y * u, (double) x * u + (double) y * v);
    // another step of rounding: directions of like ones must stay alike
    double positive = turned < 0 ? turned + 2 * Math.PI : turned;
    return Math.rint(positive * 1e9);
  }

  int opposites() {
    int count = 0;
    for (int[] m : marks) {
      for (int[] n : marks) {
        if (m[0] < n[0] && reduced(m[1], m[2]).equals(reduced(-n[1], -n[2]))) count++;
      }
    }
    return count;
  }

  private static String reduced(int y, int x) {
    int divisor = java.math.BigInteger.valueOf(y).gcd(java.math.BigInteger.valueOf(x)).intValue();
    return y / divisor + "/" + x / divisor;
  }

  /** Whether the widest gap between marks next to one another is more than half a turn. */
  boolean isOneSided() {
    if (marks.isEmpty()) return true;
    double widest = 0;
    for (int i = 0; i < marks.size(); i++) {
      int[] m = marks.get(i);
      boolean isLast = i + 1 == marks.size();
      int[] n = marks.get(isLast ? 0 : i + 1);
      double gap = angle(n[1], n[2]) - angle(m[1], m[2]) + (isLast ? 2 * Math.PI : 0);
      widest = Math.max(widest, gap);
    }
    return widest > Math.PI + 1e-9;
  }

  long sum() {
    return marks.stream().mapToLong(m -> units(angle(m[1], m[2]))).sum();
  }

  private int[] cornerBehind(int i) {
    return corners.get((i + 1) % corners.size());
  }

  boolean isOn(int x, int y) {
    for (int i = 0; i < corners.size(); i++) {
      int[] a = corners.get(i);
      int[] b = cornerBehind(i);
      int cross = (a[0] - x) * (b[1] - y) - (a[1] - y) * (b[0] - x);
      int dot = (a[0] - x) * (b[0] - x) + (a[1] - y) * (b[1] - y);
      if (cross == 0 && dot <= 0) return true;
    }
    return false;
  }

  Integer winding(int x, int y) {
    if (isOn(x, y)) return null;
    double sum = 0;
    for (int i = 0; i < corners.size(); i++) {
      int[] a = corners.get(i);
      int[] b = cornerBehind(i);
      sum += turn(a[0] - x, a[1] - y, b[0] - x, b[1] - y);
    }
    return whole(sum);
  }

  private static double turn(int ax, int ay, int bx, int by) {
    return Math.atan2((double) ax * by - (double) ay * bx, (double) ax * bx + (double) ay * by);
  }

  private static int whole(double sum) {
    double turns = sum / (2 * Math.PI);
    if (Math.abs(turns - Math.rint(turns)) > 1e-9) throw new IllegalStateException("no whole turns");
    return (int) Math.rint(turns);
  }

  Integer turning() {
    if (corners.size() < 3) return null;
    double sum = 0;
    for (int i = 0; i < corners.size(); i++) {
      int[] a = corners.get(i);
      int[] b = corners.get((i + 1) % corners.size());
      int[] c = corners.get((i + 2) % corners.size());
      int ax = b[0] - a[0];
      int ay = b[1] - a[1];
      int bx = c[0] - b[0];
      int by = c[1] - b[1];
      if (ax == 0 && ay == 0) return null;
      double turn = turn(ax, ay, bx, by);
      if (Math.abs(turn) == Math.PI && (bx != 0 || by != 0)) return null;
      sum += turn;
    }
    return whole(sum);
  }

  /** The corners' numbers of the polygon, anticlockwise from the lowest one; null in one line. */
  List<Integer> hull() {
    List<int[]> points = new ArrayList<>();
    for (int i = 0; i < corners.size(); i++) {
      int[] c = corners.get(i);
      if (points.stream().noneMatch(p -> p[0] == c[0] && p[1] == c[1])) {
        points.add(new int[] {c[0], c[1], i});
      }
    }
    points.sort(Comparator.<int[]>comparingInt(p -> p[1]).thenComparingInt(p -> p[0]));
    List<int[]> up = chain(points);
    java.util.Collections.reverse(points);
    List<int[]> down = chain(points);
    List<Integer> all = new ArrayList<>();
    for (int i = 0; i + 1 < up.size(); i++) all.add(up.get(i)[2]);
    for (int i = 0; i + 1 < down.size(); i++) all.add(down.get(i)[2]);
    return all.size() < 3 ? null : all;
  }

  private static List<int[]> chain(List<int[]> points) {
    List<int[]> chain = new ArrayList<>();
    for (int[] p : points) {
      while (chain.size() >= 2 && left(chain.get(chain.size() - 2), chain.get(chain.size() - 1), p) <= 0) {
        chain.remove(chain.size() - 1);
      }
      chain.add(p);
    }
    return chain;
  }

  private static int left(int[] a, int[] b, int[] c) {
    return (b[0] - a[0]) * (c[1] - b[1]) - (b[1] - a[1]) * (c[0] - b[0]);
  }

  long checksum() {
    long sum = 7;
    for (int[] m : marks) sum = (sum * 31 + m[0]) * 31 + units(angle(m[1], m[2]));
    for (int[] c : corners) sum = (sum * 31 + c[0]) * 31 + c[1];
    List<Integer> hull = hull();
    return sum * 31 + (hull == null ? 0 : hull.size());
  }
}
