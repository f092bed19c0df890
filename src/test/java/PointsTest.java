import java.math.BigInteger;

/** Promises 17 to 26: point, colour, triangle, tri, area, sum, even, bits, bitsOf, longBits. */
public final class PointsTest {
  private static final Due due = new Due();

  public static void main(String[] args) {
    point();
    colour();
    triangle();
    tri();
    area();
    sum();
    even();
    bits();
    bitsOf();
    longBits();
    againstBigNumbers();
    due.end();
  }

  private static CutInCopies withPoints(int... told) {
    CutInCopies x = new CutInCopies();
    for (int i = 0; i + 1 < told.length; i += 2) {
      x.point(told[i], told[i + 1]);
    }
    return x;
  }

  private static void point() {
    CutInCopies x = new CutInCopies();
    for (int i = 0; i < 10; i++) {
      due.is("17 number", x.point(100 * i + 1, 9999 - i), i);
      due.is("17 count", x.count(1), i + 1);
    }
    due.is("17 ten there are", x.point(101, 101), -6);
    due.is("17 below before room", x.point(-1, 101), -4);
    due.is("17 count stays", x.count(1), 10);
    due.refusals("17", x, 0, 0, 0, 1, 1);
    CutInCopies y = new CutInCopies();
    int[][] below = {{-1, 101}, {101, -1}, {0, 101}, {101, 0}, {100, 101}, {101, 5500}, {10000, 101},
        {101, 10000}, {-1, 10001}, {10001, -1}, {10001, 100}, {Integer.MIN_VALUE, 101}, {-101, 101}};
    for (int[] w : below) {
      due.is("17 below " + w[0] + " " + w[1], y.point(w[0], w[1]), -4);
    }
    int[][] above = {{10001, 101}, {101, 10001}, {Integer.MAX_VALUE, 101}, {101, 2000000001}};
    for (int[] w : above) {
      due.is("17 above " + w[0] + " " + w[1], y.point(w[0], w[1]), -6);
    }
    due.refusals("17", y, 0, 0, 0, below.length, above.length);
    due.is("17 none came", y.count(1), 0);
    due.is("17 least", y.point(1, 1), 0);
    due.is("17 greatest", y.point(9999, 9999), 1);
  }

  private static void colour() {
    // xs, ys, colour, valuations and 100 more
    int[][] all = {{1, 1, 0, 199, 199}, {1, 101, 2, 199, 100}, {101, 1, 1, 100, 199}, {201, 401, 0, 101, 102},
        {201, 101, 2, 101, 100}, {101, 101, 1, 100, 100}, {102, 104, 2, 99, 98}, {104, 102, 1, 98, 99},
        {6401, 6496, 0, 106, 101}, {306, 1248, 2, 99, 98}};
    CutInCopies x = new CutInCopies();
    for (int i = 0; i < all.length; i++) {
      x.point(all[i][0], all[i][1]);
      for (int what = 0; what < 3; what++) {
        due.is("18 colour(" + i + ", " + what + ")", x.colour(i, what), all[i][2 + what]);
      }
    }
    CutInCopies y = withPoints(101, 101);
    due.is("18 no point", y.colour(1, 0), -1);
    due.is("18 point below", y.colour(-1, 0), -1);
    due.is("18 no point before what", y.colour(10, 3), -1);
    due.is("18 what", y.colour(0, 3), -2);
    due.is("18 what below", y.colour(0, -1), -2);
    due.refusals("18", y, 3, 2, 0, 0, 0);
  }

  private static void triangle() {
    CutInCopies x = withPoints(1, 1, 101, 1, 1, 101);
    due.is("19 kind", x.triangle(6, 0, 1, 2), -2);
    due.is("19 kind below", x.triangle(-1, 0, 1, 2), -2);
    due.is("19 kind before points", x.triangle(6, 0, 0, 9), -2);
    int[][] wrong = {{3, 1, 2}, {0, 3, 2}, {0, 1, 3}, {-1, 1, 2}, {0, -1, 2}, {0, 1, -1}, {0, 0, 2}, {0, 1, 0},
        {2, 1, 1}, {1, 1, 1}};
    for (int[] w : wrong) {
      due.is("19 points", x.triangle(0, w[0], w[1], w[2]), -1);
    }
    due.is("19 none came", x.count(2), 0);
    for (int i = 0; i < 10; i++) {
      due.is("19 number", x.triangle(i % 6, i % 3, (i + 1) % 3, (i + 2) % 3), i);
      due.is("19 count", x.count(2), i + 1);
    }
    due.is("19 ten there are", x.triangle(0, 0, 1, 2), -6);
    due.is("19 points before room", x.triangle(0, 0, 1, 1), -1);
    due.is("19 kind before room", x.triangle(6, 0, 1, 2), -2);
    due.is("19 count stays", x.count(2), 10);
    due.refusals("19", x, 11, 4, 0, 0, 1);
    CutInCopies y = withPoints(101, 101, 202, 101, 1, 1);
    due.is("19 points alike in all but their numbers", y.triangle(0, 0, 1, 2), 0);
    due.is("19 their area", y.area(0, 0), 0);
  }

  private static void tri() {
    // Points of colours 0, 1, 2 and one of colour 2 that becomes 1 with x and y changed.
    CutInCopies x = withPoints(1, 1, 101, 1, 1, 101, 101, 101);
    int[] colours = {7, 7, 7, 7, 7, 7};
    int[] valuations = {99, 98, 100, 99, 97, 199};
    for (int kind = 0; kind < 6; kind++) {
      x.triangle(kind, 2, 0, 1);
      int[] told = {kind, 2, 0, 1, colours[kind], 1, valuations[kind]};
      for (int what = 0; what < told.length; what++) {
        due.is("20 tri(" + kind + ", " + what + ")", x.tri(kind, what), told[what]);
      }
    }
    // Point 3 has colour 1 either way; 0, 1 and 3 have colours 0 and 1, changed 0, 2 and 1.
    due.is("20", x.triangle(0, 0, 1, 3), 6);
    due.is("20 plain colours", x.tri(6, 4), 3);
    due.is("20 plain no rainbow", x.tri(6, 5), 0);
    due.is("20", x.triangle(3, 0, 1, 3), 7);
    due.is("20 mirrored colours", x.tri(7, 4), 7);
    due.is("20 mirrored rainbow", x.tri(7, 5), 1);
    due.is("20", x.triangle(5, 0, 2, 3), 8);
    due.is("20 flat colours", x.tri(8, 4), 3);
    due.is("20", x.triangle(4, 0, 2, 3), 9);
    due.is("20 quartered colours", x.tri(9, 4), 7);
    due.is("20 no triangle", x.tri(10, 0), -1);
    due.is("20 triangle below", x.tri(-1, 0), -1);
    due.is("20 triangle before what", x.tri(10, 7), -1);
    due.is("20 what", x.tri(0, 7), -2);
    due.is("20 what below", x.tri(0, -1), -2);
    due.refusals("20", x, 3, 2, 0, 0, 0);
  }

  private static void area() {
    // 1/2, 1/3; 5/7, 1/9; 98/99, 97/98: points with awkward numbers below the line.
    CutInCopies x = withPoints(102, 103, 507, 109, 9899, 9798);
    long[][] plain = new long[6][];
    for (int kind = 0; kind < 6; kind++) {
      x.triangle(kind, 0, 1, 2);
      plain[kind] = new long[] {x.area(kind, 0), x.area(kind, 1)};
    }
    BigInteger[] exact = bigArea(new int[] {102, 103, 507, 109, 9899, 9798}, 0);
    due.is("21 above", plain[0][0], exact[0].longValueExact());
    due.is("21 below", plain[0][1], exact[1].longValueExact());
    due.is("21 halved", plain[1][0] * plain[0][1] * 2, plain[0][0] * plain[1][1]);
    due.is("21 doubled", plain[2][0] * plain[0][1], plain[0][0] * plain[2][1] * 2);
    due.is("21 mirrored above", plain[3][0], plain[0][0]);
    due.is("21 mirrored below", plain[3][1], plain[0][1]);
    due.is("21 quartered", plain[4][0] * plain[0][1] * 4, plain[0][0] * plain[4][1]);
    due.is("21 flat above", plain[5][0], 0);
    due.is("21 flat below", plain[5][1], 1);
    x.triangle(0, 2, 1, 0);
    due.is("21 turned about", x.area(6, 0), plain[0][0]);
    CutInCopies line = withPoints(101, 101, 201, 201, 301, 301);
    line.triangle(2, 0, 1, 2);
    due.is("21 in a line above", line.area(0, 0), 0);
    due.is("21 in a line below", line.area(0, 1), 1);
    due.is("21 no triangle", line.area(1, 0), Due.FAR + 1);
    due.is("21 triangle below", line.area(-1, 0), Due.FAR + 1);
    due.is("21 triangle before part", line.area(1, 2), Due.FAR + 1);
    due.is("21 part", line.area(0, 2), Due.FAR + 2);
    due.is("21 part below", line.area(0, -1), Due.FAR + 2);
    due.refusals("21", line, 3, 2, 0, 0, 0);
  }

  private static void sum() {
    CutInCopies x = withPoints(1, 1, 101, 1, 1, 101, 103, 105);
    due.is("22 of none above", x.sum(0, 0), 0);
    due.is("22 of none below", x.sum(0, 1), 1);
    due.is("22 no triangle yet", x.sum(1, 0), Due.FAR + 1);
    x.triangle(0, 0, 1, 2);
    x.triangle(1, 0, 1, 2);
    x.triangle(4, 0, 1, 3);
    due.is("22 of all above", x.sum(7, 0), 31);
    due.is("22 of all below", x.sum(7, 1), 40);
    due.is("22 of two above", x.sum(5, 0), 21);
    due.is("22 of two below", x.sum(5, 1), 40);
    due.is("22 of one above", x.sum(4, 0), 1);
    due.is("22 of one below", x.sum(4, 1), 40);
    due.is("22 bits of no triangle", x.sum(8, 0), Due.FAR + 1);
    due.is("22 set below", x.sum(-1, 0), Due.FAR + 1);
    due.is("22 set below all", x.sum(Integer.MIN_VALUE, 0), Due.FAR + 1);
    due.is("22 set before part", x.sum(8, 2), Due.FAR + 1);
    due.is("22 part", x.sum(1, 2), Due.FAR + 2);
    due.is("22 part below", x.sum(1, -1), Due.FAR + 2);
    due.refusals("22", x, 5, 2, 0, 0, 0);
    sumTooGreat();
  }

  private static void sumTooGreat() {
    // The first triangle has a number below the line above 1000000000 by itself.
    CutInCopies x = withPoints(197, 189, 183, 179, 173, 171, 1, 1, 101, 1, 1, 101);
    x.triangle(0, 0, 1, 2);
    x.triangle(0, 3, 4, 5);
    due.is("22 great by itself", x.area(0, 1) > 1000000000L ? 1 : 0, 1);
    due.is("22 too great", x.sum(1, 0), Due.FAR + 3);
    due.is("22 too great with others", x.sum(3, 1), Due.FAR + 3);
    due.is("22 part before state", x.sum(1, 2), Due.FAR + 2);
    due.is("22 others", x.sum(2, 1), 2);
    due.refusals("22", x, 0, 1, 2, 0, 0);
    // Each of these is told by itself, but their sum has the product of their numbers below the line.
    CutInCopies y = withPoints(1, 1, 197, 1, 1, 189, 183, 1, 1, 179, 173, 1, 1, 171);
    y.triangle(0, 0, 1, 2);
    y.triangle(0, 0, 3, 4);
    y.triangle(0, 0, 5, 6);
    due.is("22 first", y.sum(1, 1), 2 * 97 * 89);
    due.is("22 second", y.sum(2, 1), 2 * 83 * 79);
    due.is("22 two of them", y.sum(3, 1), 97 * 89 * 83 * 79);
    due.is("22 all three", y.sum(7, 0), Due.FAR + 3);
    due.is("22 the last two", y.sum(6, 1), 83 * 79 * 73 * 71);
    due.refusals("22", y, 0, 0, 1, 0, 0);
    sumJustTold();
    sumTooGreatOnTheWay();
  }

  private static void sumJustTold() {
    // 39610 by 854667 and 1170 make 1000000000 by 854667.
    CutInCopies x = withPoints(199, 1, 8197, 1, 199, 589, 1, 1, 9001, 1, 1, 1301);
    x.triangle(2, 0, 1, 2);
    x.triangle(2, 3, 4, 5);
    due.is("22 first above", x.area(0, 0), 39610);
    due.is("22 second above", x.area(1, 0), 1170);
    due.is("22 greatest above", x.sum(3, 0), 1000000000L);
    due.is("22 below it", x.sum(3, 1), 854667);
    // 561665 by 800832 and 1248 make 1000000001 by 800832.
    CutInCopies y = withPoints(897, 1, 9796, 1, 897, 6586, 1, 1, 9601, 1, 1, 1301);
    y.triangle(2, 0, 1, 2);
    y.triangle(2, 3, 4, 5);
    due.is("22 first above", y.area(0, 0), 561665);
    due.is("22 second above", y.area(1, 0), 1248);
    due.is("22 one too great", y.sum(3, 0), Due.FAR + 3);
  }

  private static void sumTooGreatOnTheWay() {
    // The first and the second make too great a number, though the third would make it small again.
    CutInCopies x = withPoints(1, 1, 183, 1, 101, 1, 1, 179, 197, 1, 9495, 1, 1, 189);
    x.triangle(2, 4, 5, 6);
    x.triangle(2, 0, 1, 3);
    x.triangle(2, 1, 2, 3);
    x.triangle(2, 4, 5, 6);
    due.is("22 the two that fit", x.sum(6, 1), 79);
    due.is("22 too great on the way", x.sum(7, 1), Due.FAR + 3);
    due.is("22 by numbers, as they fit", x.sum(14, 0), 1532952);
    due.is("22 by numbers, as they fit, below", x.sum(14, 1), 64790665);
    due.refusals("22", x, 0, 0, 1, 0, 0);
  }

  private static void even() {
    CutInCopies x = withPoints(1, 1, 101, 1, 1, 101, 101, 101, 201, 1, 1, 201);
    due.is("23 of none", x.even(0, 0), 0);
    due.is("23 rainbows of none", x.even(0, 1), 0);
    due.is("23 none alike", x.even(0, 2), 1);
    x.triangle(0, 0, 1, 2);
    x.triangle(2, 0, 1, 2);
    x.triangle(5, 0, 1, 2);
    x.triangle(1, 0, 1, 3);
    x.triangle(0, 0, 4, 5);
    x.triangle(3, 0, 1, 2);
    due.is("23 even", x.even(63, 0), 41);
    due.is("23 even of some", x.even(11, 0), 9);
    due.is("23 rainbows", x.even(63, 1), 39);
    due.is("23 rainbows of some", x.even(28, 1), 4);
    due.is("23 alike", x.even(33, 2), 1);
    due.is("23 one alike", x.even(8, 2), 1);
    due.is("23 not alike", x.even(35, 2), 0);
    due.is("23 flat not alike", x.even(5, 2), 0);
    due.is("23 above alike, not below", x.even(9, 2), 0);
    due.is("23 below alike, not above", x.even(18, 2), 0);
    due.is("23 set", x.even(64, 0), -1);
    due.is("23 set below", x.even(-1, 0), -1);
    due.is("23 set before what", x.even(64, 3), -1);
    due.is("23 what", x.even(1, 3), -2);
    due.is("23 what below", x.even(1, -1), -2);
    due.refusals("23", x, 3, 2, 0, 0, 0);
  }

  private static void bits() {
    CutInCopies x = withPoints(1, 1, 201, 1, 1, 201, 9901, 1, 1, 9901, 103, 107);
    x.triangle(0, 0, 1, 2);
    x.triangle(5, 0, 1, 2);
    x.triangle(2, 0, 3, 4);
    x.triangle(4, 0, 1, 5);
    due.is("24 of 2", x.bits(0), Float.floatToIntBits(2.0f));
    due.is("24 of 0", x.bits(1), 0);
    due.is("24 of 9801", x.bits(2), Float.floatToIntBits(9801.0f));
    due.is("24 of 1 by 28", x.bits(3), Float.floatToIntBits(1.0f / 28.0f));
    due.is("24 no triangle", x.bits(4), -1);
    due.is("24 triangle below", x.bits(-1), -1);
    due.refusals("24", x, 2, 0, 0, 0, 0);
  }

  private static void bitsOf() {
    CutInCopies x = withPoints(1, 1, 101, 1, 1, 101, 9901, 1, 1, 9901, 1, 103);
    x.triangle(2, 0, 3, 4);
    x.triangle(0, 0, 1, 5);
    x.triangle(0, 0, 1, 2);
    float third = 1.0f / 6.0f;
    due.is("25 of none", x.bitsOf(0, 0), 0);
    due.is("25 of none cut", x.bitsOf(0, 1), 0);
    due.is("25 of all", x.bitsOf(7, 0), Float.floatToIntBits(9801.0f + third + 0.5f));
    due.is("25 of all cut", x.bitsOf(7, 1), (int) ((9801.0f + third + 0.5f) * 1000.0f));
    due.is("25 of one cut", x.bitsOf(2, 1), 166);
    due.is("25 of two", x.bitsOf(6, 0), Float.floatToIntBits(third + 0.5f));
    due.is("25 of two cut", x.bitsOf(6, 1), 666);
    due.is("25 set", x.bitsOf(8, 0), -1);
    due.is("25 set below", x.bitsOf(-8, 0), -1);
    due.is("25 set before what", x.bitsOf(8, 2), -1);
    due.is("25 what", x.bitsOf(1, 2), -2);
    due.is("25 what below", x.bitsOf(1, -1), -2);
    due.refusals("25", x, 3, 2, 0, 0, 0);
  }

  private static void longBits() {
    CutInCopies x = withPoints(1, 1, 101, 1, 1, 101, 9901, 1, 1, 9901, 1, 103);
    due.is("26 no triangle yet", x.longBits(1), Due.FAR + 1);
    x.triangle(2, 0, 3, 4);
    x.triangle(0, 0, 1, 5);
    x.triangle(5, 0, 1, 5);
    due.is("26 of none", x.longBits(0), 0);
    due.is("26 of all", x.longBits(7), Double.doubleToLongBits(9801.0 + 1.0 / 6.0));
    due.is("26 of one", x.longBits(2), Double.doubleToLongBits(1.0 / 6.0));
    due.is("26 of 0", x.longBits(4), 0);
    due.is("26 set", x.longBits(8), Due.FAR + 1);
    due.is("26 set below", x.longBits(-1), Due.FAR + 1);
    due.refusals("26", x, 3, 0, 0, 0, 0);
  }

  private static BigInteger big(long number) {
    return BigInteger.valueOf(number);
  }

  private static BigInteger[] reduced(BigInteger above, BigInteger below) {
    BigInteger divisor = above.gcd(below);
    return new BigInteger[] {above.divide(divisor), below.divide(divisor)};
  }

  /** The area of three points that are told one behind another, over one common number below. */
  private static BigInteger[] bigArea(int[] told, int kind) {
    BigInteger below = BigInteger.ONE;
    for (int number : told) {
      below = below.multiply(big(number % 100));
    }
    BigInteger[] at = new BigInteger[6];
    for (int i = 0; i < 6; i++) {
      at[i] = below.multiply(big(told[i] / 100)).divide(big(told[i] % 100));
    }
    BigInteger one = at[2].subtract(at[0]).multiply(at[5].subtract(at[1]));
    BigInteger other = at[4].subtract(at[0]).multiply(at[3].subtract(at[1]));
    long[] times = {2, 1, 4, 2, 1, 0};
    long[] by = {4, 4, 4, 4, 8, 4};
    return reduced(one.subtract(other).abs().multiply(big(times[kind])), below.pow(2).multiply(big(by[kind])));
  }

  private static int valuation(BigInteger[] fraction) {
    boolean zero = fraction[0].signum() == 0;
    return zero ? 99 : fraction[0].getLowestSetBit() - fraction[1].getLowestSetBit();
  }

  /** Points and triangles that are made by turns, looked at by numbers of any size. */
  private static void againstBigNumbers() {
    int z = 77;
    for (int turn = 0; turn < 120; turn++) {
      int[] told = new int[20];
      CutInCopies x = new CutInCopies();
      int most = turn % 3 == 0 ? 99 : turn % 3 == 1 ? 9 : 30;
      for (int i = 0; i < 20; i++) {
        z = z * 1103515245 + 12345;
        int above = (z >>> 8) % (most + 1);
        z = z * 1103515245 + 12345;
        told[i] = above * 100 + (z >>> 8) % most + 1;
      }
      for (int i = 0; i < 10; i++) {
        x.point(told[2 * i], told[2 * i + 1]);
      }
      int[][] corners = new int[10][];
      BigInteger[][] areas = new BigInteger[10][];
      for (int i = 0; i < 10; i++) {
        corners[i] = new int[] {(i + turn) % 10, (i + turn + 1 + turn % 3) % 10, (i + turn + 5) % 10};
        int kind = (i * 5 + turn) % 6;
        x.triangle(kind, corners[i][0], corners[i][1], corners[i][2]);
        areas[i] = bigArea(corner(told, corners[i]), kind);
        bigTriangle(x, i, kind, areas[i], corner(told, corners[i]));
      }
      z = z * 1103515245 + 12345;
      bigSet(x, areas, z >>> 8 & 1023);
      bigSet(x, areas, 1 << turn % 10 | 1 << (turn + 3) % 10);
      bigSet(x, areas, 1023);
    }
  }

  private static int[] corner(int[] told, int[] points) {
    int[] corner = new int[6];
    for (int i = 0; i < 3; i++) {
      corner[2 * i] = told[2 * points[i]];
      corner[2 * i + 1] = told[2 * points[i] + 1];
    }
    return corner;
  }

  private static int colour(int xs, int ys) {
    int a = valuation(reduced(big(xs / 100), big(xs % 100)));
    int b = valuation(reduced(big(ys / 100), big(ys % 100)));
    return a > 0 && b > 0 ? 0 : a <= b ? 1 : 2;
  }

  private static void bigTriangle(CutInCopies x, int number, int kind, BigInteger[] area, int[] told) {
    boolean mirrored = kind == 3 || kind == 5;
    int colours = 0;
    for (int i = 0; i < 3; i++) {
      int xs = told[2 * i + (mirrored ? 1 : 0)];
      int ys = told[2 * i + (mirrored ? 0 : 1)];
      colours |= 1 << colour(xs, ys);
    }
    due.is("20 colours", x.tri(number, 4), colours);
    due.is("20 rainbow", x.tri(number, 5), colours == 7 ? 1 : 0);
    due.is("20 valuation", x.tri(number, 6), valuation(area) + 100);
    due.is("21 above", x.area(number, 0), area[0].longValueExact());
    due.is("21 below", x.area(number, 1), area[1].longValueExact());
    float value = (float) area[0].longValueExact() / (float) area[1].longValueExact();
    due.is("24 bits", x.bits(number), Float.floatToIntBits(value));
  }

  private static void bigSet(CutInCopies x, BigInteger[][] areas, int set) {
    BigInteger[] total = {BigInteger.ZERO, BigInteger.ONE};
    BigInteger limit = big(1000000000L);
    boolean told = true;
    float floats = 0.0f;
    double doubles = 0.0;
    int even = 0;
    java.util.HashSet<String> unlike = new java.util.HashSet<>();
    for (int i = 0; i < 10; i++) {
      if ((set >> i & 1) == 1) {
        BigInteger above = areas[i][0];
        BigInteger below = areas[i][1];
        total = reduced(total[0].multiply(below).add(above.multiply(total[1])), total[1].multiply(below));
        told &= above.compareTo(limit) <= 0 && below.compareTo(limit) <= 0;
        told &= total[0].compareTo(limit) <= 0 && total[1].compareTo(limit) <= 0;
        floats += (float) above.longValueExact() / (float) below.longValueExact();
        doubles += (double) above.longValueExact() / (double) below.longValueExact();
        even |= valuation(areas[i]) <= -1 ? 1 << i : 0;
        unlike.add(above + " by " + below);
      }
    }
    due.is("22 above", x.sum(set, 0), told ? total[0].longValueExact() : Due.FAR + 3);
    due.is("22 below", x.sum(set, 1), told ? total[1].longValueExact() : Due.FAR + 3);
    due.is("23 even", x.even(set, 0), even);
    due.is("23 alike", x.even(set, 2), unlike.size() <= 1 ? 1 : 0);
    due.is("25 bits", x.bitsOf(set, 0), Float.floatToIntBits(floats));
    due.is("25 cut", x.bitsOf(set, 1), (int) (floats * 1000.0f));
    due.is("26 bits", x.longBits(set), Double.doubleToLongBits(doubles));
  }
}
