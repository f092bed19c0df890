import java.math.BigInteger;
import java.util.ArrayList;
import java.util.List;

/** The document once more, as slowly and plainly as it goes, with numbers of any size. */
final class Model {
  private static final long FAR = 4000000000000000000L;
  private static final BigInteger LIMIT = BigInteger.valueOf(1000000000);
  private static final String[] STATEMENTS = {"b00000;", "r00000;", "p00000000;", "t0000;"};

  /** A fraction in least terms. */
  record Part(BigInteger above, BigInteger below) {
    static Part of(BigInteger above, BigInteger below) {
      BigInteger divisor = above.gcd(below);
      return new Part(above.divide(divisor), below.divide(divisor));
    }

    static Part of(long above, long below) {
      return of(BigInteger.valueOf(above), BigInteger.valueOf(below));
    }

    Part plus(Part other) {
      return of(above.multiply(other.below).add(other.above.multiply(below)), below.multiply(other.below));
    }

    Part times(Part other) {
      return of(above.multiply(other.above), below.multiply(other.below));
    }

    Part less(Part other) {
      return plus(other.times(of(-1, 1)));
    }

    Part withoutSign() {
      return new Part(above.abs(), below);
    }

    int valuation() {
      return above.signum() == 0 ? 99 : above.getLowestSetBit() - below.getLowestSetBit();
    }

    boolean isTooGreat() {
      return above.compareTo(LIMIT) > 0 || below.compareTo(LIMIT) > 0;
    }

    long told(int part) {
      return (part == 0 ? above : below).longValueExact();
    }

    float single() {
      return (float) told(0) / (float) told(1);
    }
  }

  record Point(Part x, Part y) {
    int colour(boolean changed) {
      int a = (changed ? y : x).valuation();
      int b = (changed ? x : y).valuation();
      return a > 0 && b > 0 ? 0 : a <= b ? 1 : 2;
    }
  }

  record Triangle(int kind, int[] at, int colours, Part area) {
  }

  record Piece(int way, int size, List<int[]> cells, int x, int y) {
  }

  private record Kept(int n, int x, int y, int[][] rule, List<Point> points, List<Triangle> triangles) {
  }

  private int n;
  private int holeX;
  private int holeY;
  private int[][] cells;
  private List<Piece> pieces;
  private int[][] rule = new int[4][4];
  private List<Point> points = new ArrayList<>();
  private List<Triangle> triangles = new ArrayList<>();
  private String letters = "";
  private final Triangle[][] racks = new Triangle[3][];
  private final int[] madeFor = new int[3];
  private final int[][] lists = new int[3][];
  private final int[] refusals = new int[7];
  private Kept kept;

  Model() {
    for (int way = 0; way < 4; way++) {
      rule[way] = new int[] {way, way ^ 2, way ^ 1, way};
    }
    lay(2, 0, 0);
  }

  // ---- what calls share

  private int no(int refusal) {
    refusals[-refusal]++;
    return refusal;
  }

  private long far(int refusal) {
    return FAR - no(refusal);
  }

  private static boolean among(int number, int least, int greatest) {
    return number >= least && number <= greatest;
  }

  private void lay(int newN, int x, int y) {
    n = newN;
    holeX = x;
    holeY = y;
    cells = new int[1 << n][1 << n];
    cells[x][y] = -9;
    pieces = new ArrayList<>();
    cut(0, 0, 1 << n, x, y);
  }

  private void cut(int left, int top, int size, int missingX, int missingY) {
    if (size == 1) {
      return;
    }
    int half = size / 2;
    int way = (missingX < left + half ? 0 : 1) + (missingY < top + half ? 0 : 2);
    List<int[]> three = new ArrayList<>();
    int[][] missing = new int[4][];
    for (int quarter = 0; quarter < 4; quarter++) {
      int[] cell = {left + half - 1 + quarter % 2, top + half - 1 + quarter / 2};
      missing[quarter] = quarter == way ? new int[] {missingX, missingY} : cell;
      if (quarter != way) {
        three.add(cell);
        cells[cell[0]][cell[1]] = pieces.size();
      }
    }
    int[] next = three.stream()
        .filter(one -> three.stream().allMatch(other -> apart(one, other) <= 1)).findFirst().get();
    pieces.add(new Piece(way, size, three, next[0], next[1]));
    for (int quarter = 0; quarter < 4; quarter++) {
      cut(left + quarter % 2 * half, top + quarter / 2 * half, half, missing[quarter][0], missing[quarter][1]);
    }
  }

  private static int apart(int[] one, int[] other) {
    return Math.abs(one[0] - other[0]) + Math.abs(one[1] - other[1]);
  }

  private boolean isCell(int x, int y) {
    return among(x, 0, (1 << n) - 1) && among(y, 0, (1 << n) - 1);
  }

  // ---- the board

  int letter(int c) {
    if (c < 0) {
      return no(-4);
    }
    if (c > 255 || letters.length() == 72) {
      return no(-6);
    }
    letters += (char) c;
    return letters.length();
  }

  int text() {
    String told = letters;
    letters = "";
    List<String> statements = new ArrayList<>();
    int at = 0;
    do {
      String form = null;
      for (String statement : STATEMENTS) {
        form = at < told.length() && told.charAt(at) == statement.charAt(0) ? statement : form;
      }
      if (form == null) {
        return -1000 - at;
      }
      for (int i = 1; i < form.length(); i++) {
        char want = form.charAt(i);
        boolean fits = at + i < told.length()
            && (want == '0' ? "0123456789".indexOf(told.charAt(at + i)) >= 0 : told.charAt(at + i) == want);
        if (!fits) {
          return -1000 - at - i;
        }
      }
      statements.add(told.substring(at, at + form.length()));
      at += form.length();
    } while (at < told.length());
    Kept before = now();
    int begin = 0;
    for (String statement : statements) {
      if (!comes(statement)) {
        become(before);
        return -2000 - begin;
      }
      begin += statement.length();
    }
    return statements.size();
  }

  private boolean comes(String statement) {
    int[] d = statement.substring(1, statement.length() - 1).chars().map(c -> c - '0').toArray();
    switch (statement.charAt(0)) {
      case 'b': {
        int x = d[1] * 10 + d[2];
        int y = d[3] * 10 + d[4];
        if (d[0] > 4 || x >= 1 << d[0] || y >= 1 << d[0]) {
          return false;
        }
        lay(d[0], x, y);
        return true;
      }
      case 'r': {
        for (int way : d) {
          if (way > 3) {
            return false;
          }
        }
        rule[d[0]] = new int[] {d[1], d[2], d[3], d[4]};
        return true;
      }
      case 'p': {
        int[] p = {d[0] * 10 + d[1], d[2] * 10 + d[3], d[4] * 10 + d[5], d[6] * 10 + d[7]};
        if (p[1] == 0 || p[3] == 0 || points.size() == 10) {
          return false;
        }
        points.add(new Point(Part.of(p[0], p[1]), Part.of(p[2], p[3])));
        return true;
      }
      default:
        if (d[0] > 5 || !three(d[1], d[2], d[3]) || triangles.size() == 10) {
          return false;
        }
        triangles.add(made(d[0], d[1], d[2], d[3]));
        return true;
    }
  }

  int board(int newN, int x, int y) {
    if (newN < 0) {
      return no(-4);
    }
    if (newN > 4) {
      return no(-6);
    }
    if (x < 0 || y < 0 || x >= 1 << newN || y >= 1 << newN) {
      return no(-1);
    }
    lay(newN, x, y);
    return pieces.size();
  }

  int piece(int x, int y) {
    return isCell(x, y) ? cells[x][y] : no(-1);
  }

  int of(int piece, int what) {
    if (!among(piece, 0, pieces.size() - 1)) {
      return no(-1);
    }
    Piece told = pieces.get(piece);
    return switch (what) {
      case 0 -> told.way();
      case 1 -> told.size();
      case 2 -> told.x();
      case 3 -> told.y();
      case 4 -> (int) pieces.stream().filter(other -> other != told && touch(told, other)).count();
      default -> no(-2);
    };
  }

  private static boolean touch(Piece one, Piece other) {
    return one.cells().stream().anyMatch(a -> other.cells().stream().anyMatch(b -> apart(a, b) == 1));
  }

  int within(int a, int b, int c, int d) {
    if (!isCell(a, c) || !isCell(b, d)) {
      return no(-1);
    }
    return (int) pieces.stream().filter(piece -> piece.cells().stream()
        .allMatch(cell -> among(cell[0], a, b) && among(cell[1], c, d))).count();
  }

  int pieces(int what) {
    int last = (1 << n) - 1;
    if (what == 0) {
      return pieces.size();
    }
    if (what == 1) {
      return (int) pieces.stream().filter(piece -> piece.cells().stream()
          .anyMatch(cell -> cell[0] == 0 || cell[1] == 0 || cell[0] == last || cell[1] == last)).count();
    }
    return among(what, 10, 13) ? (int) pieces.stream().filter(piece -> piece.way() == what - 10).count() : no(-2);
  }

  long odds(int way, int part) {
    if (!among(way, 0, 3) || !among(part, 0, 1)) {
      return far(-2);
    }
    int in = 0;
    int all = 0;
    for (int[] column : cells) {
      for (int piece : column) {
        all += piece >= 0 ? 1 : 0;
        in += piece >= 0 && pieces.get(piece).way() == way ? 1 : 0;
      }
    }
    return (all == 0 ? Part.of(0, 1) : Part.of(in, all)).told(part);
  }

  // ---- the rule

  int rule(int way, int part, int to) {
    if (!among(way, 0, 3) || !among(part, 0, 3) || !among(to, 0, 3)) {
      return no(-2);
    }
    int was = rule[way][part];
    rule[way][part] = to;
    return was;
  }

  private BigInteger[] behindCuts(int way, int cuts) {
    BigInteger[] often = {BigInteger.ZERO, BigInteger.ZERO, BigInteger.ZERO, BigInteger.ZERO};
    if (cuts == 0) {
      often[way] = BigInteger.ONE;
      return often;
    }
    BigInteger[] before = behindCuts(way, cuts - 1);
    for (int from = 0; from < 4; from++) {
      for (int to : rule[from]) {
        often[to] = often[to].add(before[from]);
      }
    }
    return often;
  }

  long behind(int way, int cuts, int to) {
    if (!among(way, 0, 3) || !among(to, 0, 3)) {
      return far(-2);
    }
    if (cuts < 0) {
      return far(-4);
    }
    return cuts > 15 ? far(-6) : behindCuts(way, cuts)[to].longValueExact();
  }

  int address(int way, int address, int digits) {
    if (!among(way, 0, 3)) {
      return no(-2);
    }
    if (address < 0 || digits < 0) {
      return no(-4);
    }
    if (digits > 15 || address >= Math.pow(4, digits)) {
      return no(-6);
    }
    return digits == 0 ? way : at(rule[way][address % 4], address / 4, digits - 1);
  }

  private int at(int way, int address, int digits) {
    return digits == 0 ? way : at(rule[way][address % 4], address / 4, digits - 1);
  }

  int meet(int way, int other, int what) {
    if (!among(way, 0, 3) || !among(other, 0, 3) || !among(what, 0, 1)) {
      return no(-2);
    }
    // Six digits are enough for the six pairs of unlike ways.
    for (int digits = 0; digits <= 6; digits++) {
      for (int address = 0; address < 1 << 2 * digits; address++) {
        if (at(way, address, digits) == at(other, address, digits)) {
          return what == 0 ? digits : address;
        }
      }
    }
    return -9;
  }

  int steady(int way) {
    if (!among(way, 0, 3)) {
      return no(-2);
    }
    int bits = 0;
    for (int cuts = 4; cuts <= 30; cuts++) {
      BigInteger[] often = behindCuts(way, cuts);
      for (int to = 0; to < 4; to++) {
        bits |= often[to].signum() > 0 ? 1 << to : 0;
      }
    }
    return bits;
  }

  int falls(int way) {
    if (!among(way, 0, 3)) {
      return no(-2);
    }
    for (int cuts = 1; cuts <= 15; cuts++) {
      BigInteger[] often = behindCuts(way, cuts);
      if (often[0].equals(often[1]) && often[0].equals(often[2]) && often[0].equals(often[3])) {
        return cuts;
      }
    }
    return -9;
  }

  int lots(int way, int times, int z, int what) {
    if (!among(way, 0, 3) || !among(what, 0, 1)) {
      return no(-2);
    }
    if (times < 1) {
      return no(-4);
    }
    if (times > 50) {
      return no(-6);
    }
    BigInteger word = BigInteger.ONE.shiftLeft(32);
    BigInteger seed = BigInteger.valueOf(z);
    int zeros = 0;
    int ways = 0;
    for (int i = 0; i < times; i++) {
      int there = way;
      for (int digit = 0; digit < 8; digit++) {
        seed = seed.multiply(BigInteger.valueOf(1664525)).add(BigInteger.valueOf(1013904223)).mod(word);
        there = rule[there][seed.clearBit(31).shiftRight(8).mod(BigInteger.valueOf(4)).intValue()];
      }
      zeros += there == 0 ? 1 : 0;
      ways += there;
    }
    return what == 0 ? zeros : ways;
  }

  // ---- points, triangles

  int point(int xs, int ys) {
    if (xs < 0 || ys < 0 || xs % 100 == 0 || ys % 100 == 0) {
      return no(-4);
    }
    if (xs > 9999 || ys > 9999 || points.size() == 10) {
      return no(-6);
    }
    points.add(new Point(Part.of(xs / 100, xs % 100), Part.of(ys / 100, ys % 100)));
    return points.size() - 1;
  }

  int colour(int point, int what) {
    if (!among(point, 0, points.size() - 1)) {
      return no(-1);
    }
    if (!among(what, 0, 2)) {
      return no(-2);
    }
    Point told = points.get(point);
    return what == 0 ? told.colour(false) : (what == 1 ? told.x() : told.y()).valuation() + 100;
  }

  private boolean three(int a, int b, int c) {
    int last = points.size() - 1;
    return among(a, 0, last) && among(b, 0, last) && among(c, 0, last) && a != b && a != c && b != c;
  }

  private Triangle made(int kind, int a, int b, int c) {
    Point p = points.get(a);
    Point q = points.get(b);
    Point r = points.get(c);
    boolean changed = kind == 3 || kind == 5;
    int colours = 1 << p.colour(changed) | 1 << q.colour(changed) | 1 << r.colour(changed);
    Part one = q.x().less(p.x()).times(r.y().less(p.y()));
    Part other = r.x().less(p.x()).times(q.y().less(p.y()));
    Part plain = one.less(other).withoutSign().times(Part.of(1, 2));
    Part half = Part.of(1, 2);
    Part area = switch (kind) {
      case 1 -> plain.times(half);
      case 2 -> plain.times(Part.of(2, 1));
      case 4 -> plain.times(half).times(half);
      case 5 -> Part.of(0, 1);
      default -> plain;
    };
    return new Triangle(kind, new int[] {a, b, c}, colours, area);
  }

  int triangle(int kind, int a, int b, int c) {
    if (!among(kind, 0, 5)) {
      return no(-2);
    }
    if (!three(a, b, c)) {
      return no(-1);
    }
    if (triangles.size() == 10) {
      return no(-6);
    }
    triangles.add(made(kind, a, b, c));
    return triangles.size() - 1;
  }

  private boolean isTriangle(int triangle) {
    return among(triangle, 0, triangles.size() - 1);
  }

  int tri(int triangle, int what) {
    if (!isTriangle(triangle)) {
      return no(-1);
    }
    Triangle told = triangles.get(triangle);
    return switch (what) {
      case 0 -> told.kind();
      case 1, 2, 3 -> told.at()[what - 1];
      case 4 -> told.colours();
      case 5 -> told.colours() == 7 ? 1 : 0;
      case 6 -> told.area().valuation() + 100;
      default -> no(-2);
    };
  }

  long area(int triangle, int part) {
    if (!isTriangle(triangle)) {
      return far(-1);
    }
    return among(part, 0, 1) ? triangles.get(triangle).area().told(part) : far(-2);
  }

  /** The triangles of a set, or null where a bit is of none. */
  private List<Triangle> of(int set) {
    List<Triangle> in = new ArrayList<>();
    for (int i = 0; i < 32; i++) {
      if ((set >> i & 1) == 1) {
        if (!isTriangle(i)) {
          return null;
        }
        in.add(triangles.get(i));
      }
    }
    return in;
  }

  long sum(int set, int part) {
    List<Triangle> in = of(set);
    if (in == null) {
      return far(-1);
    }
    if (!among(part, 0, 1)) {
      return far(-2);
    }
    Part total = Part.of(0, 1);
    boolean tooGreat = false;
    for (Triangle triangle : in) {
      total = total.plus(triangle.area());
      tooGreat |= triangle.area().isTooGreat() || total.isTooGreat();
    }
    return tooGreat ? far(-3) : total.told(part);
  }

  int even(int set, int what) {
    List<Triangle> in = of(set);
    if (in == null) {
      return no(-1);
    }
    if (!among(what, 0, 2)) {
      return no(-2);
    }
    if (what == 2) {
      return in.stream().map(Triangle::area).distinct().count() <= 1 ? 1 : 0;
    }
    int bits = 0;
    for (int i = 0; i < triangles.size(); i++) {
      Triangle triangle = triangles.get(i);
      boolean told = what == 0 ? triangle.area().valuation() <= -1 : triangle.colours() == 7;
      bits |= told ? 1 << i : 0;
    }
    return bits & set;
  }

  int bits(int triangle) {
    return isTriangle(triangle) ? Float.floatToIntBits(triangles.get(triangle).area().single()) : no(-1);
  }

  int bitsOf(int set, int what) {
    List<Triangle> in = of(set);
    if (in == null) {
      return no(-1);
    }
    float total = 0.0f;
    for (Triangle triangle : in) {
      total += triangle.area().single();
    }
    return what == 0 ? Float.floatToIntBits(total) : what == 1 ? (int) (total * 1000.0f) : no(-2);
  }

  long longBits(int set) {
    List<Triangle> in = of(set);
    if (in == null) {
      return far(-1);
    }
    double total = 0.0;
    for (Triangle triangle : in) {
      total += (double) triangle.area().told(0) / (double) triangle.area().told(1);
    }
    return Double.doubleToLongBits(total);
  }

  // ---- racks, lists

  int rack(int rack, int kind, int size) {
    if (!among(rack, 0, 2)) {
      return no(-1);
    }
    if (!among(kind, 0, 5)) {
      return no(-2);
    }
    if (size > 9) {
      return no(-6);
    }
    if (size < 0) {
      return -14;
    }
    racks[rack] = new Triangle[size];
    madeFor[rack] = kind;
    return 1;
  }

  private static boolean isUnder(int kind, int other) {
    return kind == other || other == 0 || kind == 4 && other == 1 || kind == 5 && other == 3;
  }

  int racks(int rack, int i, int triangle) {
    if (!among(rack, 0, 2) || triangle != -1 && !isTriangle(triangle)) {
      return no(-1);
    }
    if (racks[rack] == null) {
      return -11;
    }
    if (!among(i, 0, racks[rack].length - 1)) {
      return -13;
    }
    if (triangle >= 0 && !isUnder(triangles.get(triangle).kind(), madeFor[rack])) {
      return -16;
    }
    racks[rack][i] = triangle < 0 ? null : triangles.get(triangle);
    return 1;
  }

  int racked(int rack, int i, int what) {
    if (!among(rack, 0, 2)) {
      return no(-1);
    }
    if (!among(what, 0, 1)) {
      return no(-2);
    }
    if (racks[rack] == null) {
      return -11;
    }
    if (!among(i, 0, racks[rack].length - 1)) {
      return -13;
    }
    Triangle there = racks[rack][i];
    return there == null ? -9 : what == 0 ? there.kind() : there.area().valuation() + 100;
  }

  int like(int rack, int other) {
    if (!among(rack, 0, 2) || !among(other, 0, 2)) {
      return no(-1);
    }
    if (racks[other] == null) {
      return -11;
    }
    racks[rack] = racks[other].clone();
    madeFor[rack] = madeFor[other];
    return racks[rack].length;
  }

  int list(int list, int size) {
    if (!among(list, 0, 2)) {
      return no(-1);
    }
    if (size > 40) {
      return no(-6);
    }
    if (size < 0) {
      return -14;
    }
    lists[list] = new int[size];
    return 1;
  }

  int put(int list, int i, int v) {
    if (!among(list, 0, 2)) {
      return no(-1);
    }
    if (lists[list] == null) {
      return -11;
    }
    if (!among(i, 0, lists[list].length - 1)) {
      return -13;
    }
    lists[list][i] = v;
    return 1;
  }

  long look(int list, int i) {
    if (!among(list, 0, 2)) {
      return far(-1);
    }
    if (lists[list] == null) {
      return FAR + 11;
    }
    return among(i, 0, lists[list].length - 1) ? lists[list][i] : FAR + 13;
  }

  int judge(int list) {
    if (!among(list, 0, 2)) {
      return no(-1);
    }
    if (lists[list] == null) {
      return -11;
    }
    for (int i = 0; i < lists[list].length; i++) {
      if (i >= pieces.size() || pieces.get(i).way() != lists[list][i]) {
        return i;
      }
    }
    return -9;
  }

  // ---- the image

  private Kept now() {
    int[][] ways = new int[4][];
    for (int way = 0; way < 4; way++) {
      ways[way] = rule[way].clone();
    }
    return new Kept(n, holeX, holeY, ways, List.copyOf(points), List.copyOf(triangles));
  }

  private void become(Kept then) {
    lay(then.n(), then.x(), then.y());
    for (int way = 0; way < 4; way++) {
      rule[way] = then.rule()[way].clone();
    }
    points = new ArrayList<>(then.points());
    triangles = new ArrayList<>(then.triangles());
  }

  int image() {
    kept = now();
    return points.size();
  }

  int on() {
    if (kept == null) {
      return no(-3);
    }
    become(kept);
    return points.size();
  }

  int count(int what) {
    return switch (what) {
      case 0 -> n;
      case 1 -> points.size();
      case 2 -> triangles.size();
      case 3 -> letters.length();
      case 4 -> holeX;
      case 5 -> holeY;
      case 11, 12, 13, 14, 15, 16 -> refusals[what - 10];
      default -> -9;
    };
  }
}
