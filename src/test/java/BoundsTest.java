import java.util.TreeSet;

/** The bounds that stand in the document's terms, beside those of the refusals (RefusalsTest). */
public final class BoundsTest {
  private static final Due due = new Due();
  private static final String THREE = "p00010001;p01010001;p00010101;";

  public static void main(String[] args) {
    atFirst();
    everyBoard();
    blockOfOneCell();
    quarters();
    touching();
    odds();
    ruleAtFirst();
    digits();
    meetings();
    steady();
    falls();
    draws();
    fractions();
    colours();
    trianglesAndPoints();
    areas();
    sumsOfOne();
    sumsOfSome();
    sumsThatFitOfAreasThatDoNot();
    evenOnes();
    alike();
    floats();
    floatsByNumbers();
    cutDown();
    racks();
    lists();
    judged();
    texts();
    faults();
    images();
    imageStays();
    lastCall();
    due.end();
  }

  private static Run run(String name) {
    return new Run(due, name);
  }

  private static void atFirst() {
    Run run = run("a new object").is("count(0)", 2).is("count(4)", 0).is("count(5)", 0).is("piece(0, 0)", -9);
    run.is("count(1)", 0).is("count(2)", 0).is("count(3)", 0).is("pieces(0)", 5);
    for (int row = 0; row < 3; row++) {
      run.refused("racks(" + row + ", 0, -1)", -11).refused("racked(" + row + ", 0, 0)", -11);
      run.refused("like(" + row + ", " + (row + 1) % 3 + ")", -11).refused("judge(" + row + ")", -11);
      run.refused("put(" + row + ", 0, 0)", -11).refused("look(" + row + ", 0)", -11);
    }
    run.refusals(0, 0, 0, 0, 0).refused("on()", -3).refused("colour(0, 0)", -1).refused("tri(0, 0)", -1);
    run.refusals(2, 0, 1, 0, 0);
  }

  /** The numbers of the pieces, cut as the document tells it, on a board of its own. */
  private static final class Cut {
    final int[][] cells;
    final int[][] pieces = new int[85][];
    int count = 0;

    Cut(int n, int holeX, int holeY) {
      cells = new int[1 << n][1 << n];
      cells[holeY][holeX] = -9;
      cut(0, 0, 1 << n, holeX, holeY);
    }

    private void cut(int left, int top, int side, int missingX, int missingY) {
      if (side == 1) {
        return;
      }
      int half = side / 2;
      int piece = count++;
      int[][] next = {{left + half - 1, top + half - 1}, {left + half, top + half - 1},
          {left + half - 1, top + half}, {left + half, top + half}};
      int out = missingY < top + half ? missingX < left + half ? 0 : 1 : missingX < left + half ? 2 : 3;
      pieces[piece] = new int[] {out, side, next[3 - out][0], next[3 - out][1]};
      for (int quarter = 0; quarter < 4; quarter++) {
        if (quarter != out) {
          cells[next[quarter][1]][next[quarter][0]] = piece;
        } else {
          next[quarter] = new int[] {missingX, missingY};
        }
      }
      cut(left, top, half, next[0][0], next[0][1]);
      cut(left + half, top, half, next[1][0], next[1][1]);
      cut(left, top + half, half, next[2][0], next[2][1]);
      cut(left + half, top + half, half, next[3][0], next[3][1]);
    }

    private int at(int x, int y) {
      return y < 0 || x < 0 || y >= cells.length || x >= cells.length ? -9 : cells[y][x];
    }

    int touching(int piece) {
      TreeSet<Integer> others = new TreeSet<>();
      for (int y = 0; y < cells.length; y++) {
        for (int x = 0; x < cells.length; x++) {
          if (cells[y][x] == piece) {
            for (int other : new int[] {at(x - 1, y), at(x + 1, y), at(x, y - 1), at(x, y + 1)}) {
              others.add(other);
            }
          }
        }
      }
      others.remove(piece);
      others.remove(-9);
      return others.size();
    }

    int within(int a, int b, int c, int d) {
      int[] inside = new int[count];
      for (int y = c; y <= d; y++) {
        for (int x = a; x <= b; x++) {
          if (cells[y][x] >= 0) {
            inside[cells[y][x]]++;
          }
        }
      }
      int all = 0;
      for (int often : inside) {
        all += often / 3;
      }
      return all;
    }

    int atBorder() {
      TreeSet<Integer> there = new TreeSet<>();
      int last = cells.length - 1;
      for (int i = 0; i <= last; i++) {
        there.add(cells[i][0]);
        there.add(cells[i][last]);
        there.add(cells[0][i]);
        there.add(cells[last][i]);
      }
      there.remove(-9);
      return there.size();
    }
  }

  /** Each size of a board with each hole, cell by cell and piece by piece. */
  private static void everyBoard() {
    for (int n = 0; n <= 4; n++) {
      int side = 1 << n;
      for (int hole = 0; hole < side * side; hole++) {
        boardWith(n, hole % side, hole / side);
      }
    }
  }

  private static void boardWith(int n, int holeX, int holeY) {
    int side = 1 << n;
    Cut cut = new Cut(n, holeX, holeY);
    String name = "board(" + n + ", " + holeX + ", " + holeY + ")";
    CutInCopies x = new CutInCopies();
    due.is(name, x.board(n, holeX, holeY), cut.count);
    for (int y = 0; y < side; y++) {
      for (int column = 0; column < side; column++) {
        due.is(name + " piece(" + column + ", " + y + ")", x.piece(column, y), cut.cells[y][column]);
      }
    }
    due.is(name + " pieces(1)", x.pieces(1), cut.atBorder());
    windows(name, x, cut);
    CutInCopies z = new CutInCopies();
    z.board(n, holeX, holeY);
    int[] byWay = new int[4];
    for (int piece = 0; piece < cut.count; piece++) {
      byWay[cut.pieces[piece][0]]++;
      for (int what = 0; what < 4; what++) {
        due.is(name + " of(" + piece + ", " + what + ")", z.of(piece, what), cut.pieces[piece][what]);
      }
      due.is(name + " of(" + piece + ", 4)", z.of(piece, 4), cut.touching(piece));
    }
    for (int way = 0; way < 4; way++) {
      due.is(name + " pieces " + way, z.pieces(10 + way), byWay[way]);
      due.is(name + " odds of " + way, z.odds(way, 0) * cut.count, z.odds(way, 1) * byWay[way]);
    }
  }

  private static void windows(String name, CutInCopies x, Cut cut) {
    int last = cut.cells.length - 1;
    for (int i = 0; i < 40; i++) {
      int a = i % 2 * i * 7 % (last + 1);
      int b = last - i % 3 * i * 5 % (last + 1);
      int c = i % 5 * i * 3 % (last + 1);
      int d = last - i % 7 * i * 11 % (last + 1);
      String call = "within(" + a + ", " + b + ", " + c + ", " + d + ")";
      due.is(name + " " + call, x.within(a, b, c, d), cut.within(a, b, c, d));
    }
  }

  private static void blockOfOneCell() {
    Run run = run("a board of one cell").is("board(0, 0, 0)", 0).is("pieces(0)", 0).is("pieces(1)", 0);
    run.is("piece(0, 0)", -9).is("within(0, 0, 0, 0)", 0).is("count(0)", 0);
    for (int way = 0; way < 4; way++) {
      run.is("pieces(" + (10 + way) + ")", 0);
    }
    run.refusals(0, 0, 0, 0, 0).refused("of(0, 0)", -1).refused("piece(1, 0)", -1);
  }

  private static void quarters() {
    for (int quarter = 0; quarter < 4; quarter++) {
      Run run = run("the hole in quarter " + quarter);
      run.is("board(1, " + (quarter & 1) + ", " + (quarter >> 1) + ")", 1).is("of(0, 0)", quarter).is("of(0, 1)", 2);
      run.is("of(0, 2)", 1 - (quarter & 1)).is("of(0, 3)", 1 - (quarter >> 1));
      // The four cells round the middle of 4 by 4 are the corners of their quarters.
      Run four = run("the hole next to the middle in quarter " + quarter);
      four.is("board(2, " + (1 + (quarter & 1)) + ", " + (1 + (quarter >> 1)) + ")", 5).is("of(0, 0)", quarter);
      four.is("of(" + (1 + quarter) + ", 0)", 3 - quarter);
    }
  }

  private static void touching() {
    run("one piece touches none").with("board(1, 0, 0)").is("of(0, 4)", 0);
    // Piece 0 has two sides beside piece 2 and yet touches four, each once.
    run("each once").with("board(2, 0, 0)").is("of(0, 4)", 4).is("of(1, 4)", 3);
    // Pieces 1 and 2 meet at a corner alone: cells 1, 1 and 2, 0.
    Run corner = run("not over a corner").with("board(2, 1, 0)").is("piece(1, 1)", 1).is("piece(2, 0)", 2);
    corner.is("of(1, 4)", 2).is("of(2, 4)", 2).is("of(0, 4)", 4);
  }

  private static void odds() {
    Run one = run("odds on one cell").with("board(0, 0, 0)");
    Run two = run("odds on four cells").with("board(1, 1, 1)");
    for (int way = 0; way < 4; way++) {
      one.is("odds(" + way + ", 0)", 0).is("odds(" + way + ", 1)", 1);
      two.is("odds(" + way + ", 0)", way == 3 ? 1 : 0).is("odds(" + way + ", 1)", 1);
    }
    one.refusals(0, 0, 0, 0, 0);
    // 9 of 21 pieces lie in way 0: 3 by 7.
    Run three = run("odds in least terms").with("board(3, 0, 0)").is("pieces(10)", 9).is("odds(0, 0)", 3);
    three.is("odds(0, 1)", 7);
  }

  private static void ruleAtFirst() {
    int[] turned = {0, 2, 1, 0};
    Run run = run("the rule at first");
    for (int way = 0; way < 4; way++) {
      for (int part = 0; part < 4; part++) {
        run.is("address(" + way + ", " + part + ", 1)", way ^ turned[part]);
        run.is("rule(" + way + ", " + part + ", " + way + ")", way ^ turned[part]);
      }
    }
  }

  private static void digits() {
    Run run = run("0 and 15 digits");
    for (int way = 0; way < 4; way++) {
      run.is("address(" + way + ", 0, 0)", way).is("address(" + way + ", 0, 15)", way);
      // 15 digits 1, then 14 digits 0 and a last one of 2.
      run.is("address(" + way + ", 357913941, 15)", way ^ 2).is("address(" + way + ", 536870912, 15)", way ^ 1);
      run.is("address(" + way + ", 1, 15)", way ^ 2).is("address(" + way + ", 1073741823, 15)", way);
      for (int to = 0; to < 4; to++) {
        run.is("behind(" + way + ", 0, " + to + ")", way == to ? 1 : 0);
      }
    }
    Run all = run("15 cuts").with("rule(0, 1, 0)", "rule(0, 2, 0)");
    all.is("behind(0, 15, 0)", 1073741824).is("behind(0, 14, 0)", 268435456).is("behind(0, 15, 1)", 0);
    all.is("behind(0, 1, 0)", 4);
    // The first cut's part is the lowest digit: part 1 of way 0 is way 1, part 2 of way 1 is way 3.
    Run order = run("the lowest digit first").with("rule(0, 1, 1)", "rule(1, 2, 3)", "rule(0, 2, 0)");
    order.is("address(0, 9, 2)", 3).is("address(0, 6, 2)", 1);
  }

  private static Run withRule(String name, String digits) {
    Run run = run(name);
    for (int i = 0; i < 16; i++) {
      run.with("rule(" + i / 4 + ", " + i % 4 + ", " + digits.charAt(i) + ")");
    }
    return run;
  }

  private static void meetings() {
    Run first = run("a way meets itself at no digit");
    for (int way = 0; way < 4; way++) {
      first.is("meet(" + way + ", " + way + ", 0)", 0).is("meet(" + way + ", " + way + ", 1)", 0);
      first.is("meet(" + way + ", " + (way + 1) % 4 + ", 0)", -9).is("meet(" + way + ", " + (way + 1) % 4 + ", 1)", -9);
    }
    // There are six pairs of unlike ways, so no meeting needs more than six digits: this one does.
    String latest = "0030321123021102";
    int[] found = slowMeeting(latest, 0, 2);
    due.is("six digits", found[0], 6);
    Run late = withRule("the latest meeting", latest).is("meet(0, 2, 0)", 6);
    late.is("meet(0, 2, 1)", found[1]).is("meet(2, 0, 0)", 6).is("meet(2, 0, 1)", found[1]);
    // At part 1 as well as at part 2.
    withRule("the least number", "0113111122223333").is("meet(0, 1, 0)", 1).is("meet(0, 1, 1)", 1);
    // At digits 3, 0 (the number 3) as well as at 0, 1 (the number 4).
    withRule("the last digit weighs most", "0102201311201231").is("meet(0, 1, 0)", 2).is("meet(0, 1, 1)", 3);
    withRule("at part 3 alone", "0123103322223333").is("meet(0, 1, 0)", 1).is("meet(0, 1, 1)", 3);
  }

  /** By going through the addresses of ever more digits, the least first. */
  private static int[] slowMeeting(String digits, int way, int other) {
    for (int n = 0; n <= 7; n++) {
      for (int address = 0; address < 1 << 2 * n; address++) {
        int one = way;
        int two = other;
        for (int i = 0; i < n; i++) {
          int part = address >> 2 * i & 3;
          one = digits.charAt(one * 4 + part) - '0';
          two = digits.charAt(two * 4 + part) - '0';
        }
        if (one == two) {
          return new int[] {n, address};
        }
      }
    }
    return new int[] {-9, -9};
  }

  private static void steady() {
    // 0 leads to 1, that to 2, that to 3, which stays: what is left behind is not steady.
    Run line = withRule("steady at the end of a line", "1111222233333333");
    for (int way = 0; way < 4; way++) {
      line.is("steady(" + way + ")", 8);
    }
    // A ring: behind 4 cuts all lie as at first, behind 5, 6 and 7 elsewhere.
    Run ring = withRule("steady on a ring", "1111222233330000");
    // A ring of three and one that leads there: behind 4 cuts one lies in but one way of it.
    Run three = withRule("steady on a ring of three", "1111222211110000");
    for (int way = 0; way < 4; way++) {
      ring.is("steady(" + way + ")", 15);
      three.is("steady(" + way + ")", 6);
    }
    // One part in 16 leaves way 0 by way 1 and way 2 for way 3, and only there it stays.
    Run rare = withRule("steady by rare parts", "0001111222233333");
    rare.is("steady(0)", 15).is("steady(1)", 14).is("steady(2)", 12).is("steady(3)", 8);
  }

  private static void falls() {
    // Not behind no cut: at first a piece lies in one way alone. No rule needs more than six cuts.
    withRule("alike behind one cut", "0123333333333333").is("falls(0)", 1).is("falls(1)", -9);
    withRule("alike behind six cuts", "3333222200112222").is("falls(0)", 6).is("falls(1)", 5).is("falls(2)", 4);
    withRule("the least number", "0123012301230123").is("falls(0)", 1).is("falls(3)", 1);
    run("never alike").is("falls(0)", -9).is("falls(1)", -9).is("falls(2)", -9).is("falls(3)", -9);
    withRule("three of four alike", "1230111122223333").is("falls(0)", 1).is("falls(1)", -9);
    withRule("two and two alike", "0022002200220022").is("falls(0)", -9).is("falls(2)", -9);
  }

  /** A draw by long numbers; the seed behind it is put back in the row. */
  private static int draw(long[] z, int m) {
    long next = (z[0] * 1664525L + 1013904223L) % 4294967296L;
    next = next < 0 ? next + 4294967296L : next;
    z[0] = next >= 2147483648L ? next - 4294967296L : next;
    return (int) (next % 2147483648L / 256 % m);
  }

  private static void draws() {
    int[] seeds = {0, 1, -1, 2, 1013904223, -1013904223, Integer.MAX_VALUE, Integer.MIN_VALUE,
        Integer.MAX_VALUE - 1, Integer.MIN_VALUE + 1, 305419896};
    String[] rules = {"0213130220313120", "1230230130120123", "0123012301230123"};
    for (String rule : rules) {
      for (int seed : seeds) {
        Run run = withRule("lots with " + seed + " by " + rule, rule);
        for (int n : new int[] {1, 2, 49, 50}) {
          for (int way = 0; way < 4; way++) {
            long[] z = {seed};
            int zeros = 0;
            int ways = 0;
            for (int i = 0; i < n; i++) {
              int there = way;
              for (int digit = 0; digit < 8; digit++) {
                there = rule.charAt(there * 4 + draw(z, 4)) - '0';
              }
              zeros += there == 0 ? 1 : 0;
              ways += there;
            }
            run.is("lots(" + way + ", " + n + ", " + seed + ", 0)", zeros);
            run.is("lots(" + way + ", " + n + ", " + seed + ", 1)", ways);
          }
        }
        run.refusals(0, 0, 0, 0, 0);
      }
    }
  }

  private static void fractions() {
    // xs, and the valuation of it, 100 more
    int[][] all = {{1, 199}, {99, 199}, {2, 199}, {101, 100}, {9999, 100}, {9901, 100}, {6401, 106}, {164, 94},
        {6464, 100}, {9696, 100}, {9664, 99}, {6496, 101}, {9801, 101}, {198, 99}, {6403, 106}, {364, 94},
        {3296, 100}, {9632, 100}, {9848, 97}, {1296, 97}};
    for (int[] told : all) {
      Run run = run("valuation").with("point(" + told[0] + ", 101)", "point(101, " + told[0] + ")");
      run.is("colour(0, 1)", told[1]).is("colour(1, 2)", told[1]).is("colour(0, 2)", 100).is("colour(1, 1)", 100);
    }
    Run run = run("0 by 1").with("point(1, 1)", "point(99, 50)", "point(7, 3)", "triangle(0, 0, 1, 2)");
    run.is("area(0, 0)", 0).is("area(0, 1)", 1).is("sum(0, 0)", 0).is("sum(0, 1)", 1);
    run.is("sum(1, 0)", 0).is("sum(1, 1)", 1).is("odds(3, 0)", 0).is("odds(3, 1)", 1).is("tri(0, 6)", 199);
  }

  private static void colours() {
    // Valuations of x and y by their numbers: -1, 0, 1, 2, that of 0; and the colour that is due.
    String[] told = {"102", "101", "201", "401", "1"};
    int[] valuations = {-1, 0, 1, 2, 99};
    for (int i = 0; i < 5; i++) {
      for (int j = 0; j < 5; j++) {
        int a = valuations[i];
        int b = valuations[j];
        int want = a > 0 && b > 0 ? 0 : a <= b ? 1 : 2;
        Run run = run("colour of " + a + ", " + b).with("point(" + told[i] + ", " + told[j] + ")");
        run.is("colour(0, 0)", want).is("colour(0, 1)", a + 100).is("colour(0, 2)", b + 100);
      }
    }
  }

  private static void trianglesAndPoints() {
    Run run = run("ten points, ten triangles");
    for (int i = 0; i < 10; i++) {
      run.is("point(" + (100 * i + 1) + ", " + (100 * (i * i % 7) + 1) + ")", i).is("count(1)", i + 1);
    }
    for (int i = 0; i < 9; i++) {
      run.is("triangle(" + i % 6 + ", " + i + ", " + (i + 1) + ", " + (i + 5) % 10 + ")", i).is("count(2)", i + 1);
    }
    run.refused("triangle(0, 9, 9, 0)", -1).is("triangle(5, 9, 8, 7)", 9).is("count(2)", 10);
    run.is("tri(9, 0)", 5).is("tri(9, 1)", 9).is("tri(9, 2)", 8).is("tri(9, 3)", 7);
    run.refused("triangle(5, 9, 8, 7)", -6).refused("point(101, 101)", -6);
    run.refusals(1, 0, 0, 0, 2).is("count(1)", 10).is("count(2)", 10);
    // Three points that are unlike by number alone.
    Run same = run("points alike").with("point(101, 101)", "point(101, 101)", "point(202, 303)");
    same.is("triangle(0, 0, 1, 2)", 0).is("area(0, 0)", 0).is("tri(0, 4)", 2);
  }

  private static void areas() {
    // 0, 0; 3, 0; 0, 5, told either way about: a plain one's area is 15 by 2.
    String[] points = {"point(1, 1)", "point(301, 1)", "point(1, 501)"};
    int[][] areas = {{15, 2}, {15, 4}, {15, 1}, {15, 2}, {15, 8}, {0, 1}};
    for (int kind = 0; kind < 6; kind++) {
      Run run = run("area of kind " + kind).with(points);
      run.with("triangle(" + kind + ", 0, 1, 2)", "triangle(" + kind + ", 0, 2, 1)", "triangle(" + kind + ", 2, 0, 1)");
      for (int i = 0; i < 3; i++) {
        run.is("area(" + i + ", 0)", areas[kind][0]).is("area(" + i + ", 1)", areas[kind][1]);
      }
    }
    // The greatest area: twice half of 99 by 99.
    Run great = run("the greatest area").with("point(1, 1)", "point(9901, 1)", "point(1, 9901)");
    great.with("triangle(2, 0, 1, 2)").is("area(0, 0)", 9801).is("area(0, 1)", 1);
    // In a line, and of a line of three unlike points.
    Run line = run("in a line").with("point(102, 103)", "point(204, 206)", "point(101, 203)");
    line.with("triangle(4, 0, 1, 2)").is("area(0, 0)", 0).is("area(0, 1)", 1).is("even(1, 0)", 0);
  }

  private static void sumsOfOne() {
    Run above = run("1000000000 above the line").with("point(1427, 473)", "point(4217, 8041)", "point(6613, 7811)");
    above.with("triangle(2, 0, 1, 2)").is("area(0, 0)", 1000000000).is("area(0, 1)", 196451541);
    above.is("sum(1, 0)", 1000000000).is("sum(1, 1)", 196451541);
    Run over = run("1000000001 above the line").with("point(9437, 5690)", "point(1345, 401)", "point(5686, 7361)");
    over.with("triangle(2, 0, 1, 2)").is("area(0, 0)", 1000000001).is("area(0, 1)", 196528275);
    over.refused("sum(1, 0)", -3).refused("sum(1, 1)", -3).is("sum(0, 0)", 0).refusals(0, 0, 2, 0, 0);
    // 1000000000 below the line would need more fives than two fractions can have: these are next to it.
    Run below = run("999999840 below the line").with("point(9985, 682)", "point(8224, 1961)", "point(398, 2082)");
    below.with("triangle(4, 0, 1, 2)").is("area(0, 0)", 81842603).is("area(0, 1)", 999999840);
    below.is("sum(1, 0)", 81842603).is("sum(1, 1)", 999999840);
    Run under = run("1000000440 below the line").with("point(5746, 5290)", "point(8359, 4818)", "point(5189, 3346)");
    under.with("triangle(0, 0, 1, 2)").is("area(0, 0)", 707404387).is("area(0, 1)", 1000000440);
    under.refused("sum(1, 0)", -3).refused("sum(1, 1)", -3).refusals(0, 0, 2, 0, 0);
    // Refused by that one area, though not by the others, wherever it stands in the set.
    under.with("point(1, 1)", "point(101, 1)", "point(1, 101)", "triangle(0, 3, 4, 5)").refused("sum(3, 0)", -3);
    under.is("sum(2, 0)", 1).is("sum(2, 1)", 2);
  }

  private static Run rightAngles(String name, int... told) {
    Run run = run(name).with("point(1, 1)");
    for (int i = 0; i < told.length; i += 2) {
      run.with("point(" + told[i] + ", 1)", "point(1, " + told[i + 1] + ")");
      run.with("triangle(2, 0, " + (i + 1) + ", " + (i + 2) + ")");
    }
    return run;
  }

  private static void sumsOfSome() {
    // 1 by 5856, 1 by 4165 and 1 by 41: no two of them share a divisor below the line.
    Run fits = rightAngles("999999840 below in the sum", 196, 161, 185, 149, 141, 101);
    fits.is("sum(7, 1)", 999999840).is("sum(7, 0)", 4165L * 41 + 5856L * 41 + 5856L * 4165);
    // 1 by 6408, 1 by 295 and 1 by 529.
    Run great = rightAngles("1000000440 below in the sum", 172, 189, 159, 105, 123, 123);
    great.refused("sum(7, 0)", -3).refused("sum(7, 1)", -3).is("sum(3, 1)", 6408 * 295).is("sum(6, 1)", 295 * 529);
    great.refusals(0, 0, 2, 0, 0);
    // 39610 by 854667 and 1170; 561665 by 800832 and 1248: the first just fits, the second is one more.
    Run most = run("1000000000 above in the sum").with("point(199, 1)", "point(8197, 1)", "point(199, 589)");
    most.with("point(1, 1)", "point(9001, 1)", "point(1, 1301)", "triangle(2, 0, 1, 2)", "triangle(2, 3, 4, 5)");
    most.is("sum(3, 0)", 1000000000).is("sum(3, 1)", 854667).is("sum(1, 0)", 39610).is("sum(2, 0)", 1170);
    Run over = run("1000000001 above in the sum").with("point(897, 1)", "point(9796, 1)", "point(897, 6586)");
    over.with("point(1, 1)", "point(9601, 1)", "point(1, 1301)", "triangle(2, 0, 1, 2)", "triangle(2, 3, 4, 5)");
    over.refused("sum(3, 0)", -3).refused("sum(3, 1)", -3).is("sum(1, 0)", 561665).is("sum(2, 0)", 1248);
    over.refusals(0, 0, 2, 0, 0);
  }

  /** A number of one area alone is too great; it is less again in the sum, and none but that one is in the way. */
  private static void sumsThatFitOfAreasThatDoNot() {
    // 1549106109 by 4566200 behind 739749 by 1141550: together 310413021 by 913240.
    Run above = run("too great above in one area").with("point(5702, 179)", "point(5685, 1185)");
    above.with("point(5985, 4902)", "point(3985, 2579)", "triangle(4, 0, 1, 3)", "triangle(0, 0, 1, 2)");
    above.is("area(0, 0)", 739749).is("area(0, 1)", 1141550).is("area(1, 0)", 1549106109).is("area(1, 1)", 4566200);
    above.is("sum(1, 0)", 739749).refused("sum(2, 0)", -3).refused("sum(3, 0)", -3).refused("sum(3, 1)", -3);
    // 707404387 by 1000000440 behind the double of it: together 707404387 by 333333480.
    Run below = run("too great below in one area").with("point(5746, 5290)", "point(8359, 4818)");
    below.with("point(5189, 3346)", "triangle(2, 0, 1, 2)", "triangle(0, 0, 1, 2)");
    below.is("area(0, 0)", 707404387).is("area(0, 1)", 500000220).is("area(1, 0)", 707404387);
    below.is("area(1, 1)", 1000000440).is("sum(1, 1)", 500000220).refused("sum(2, 1)", -3);
    below.refused("sum(3, 0)", -3).refused("sum(3, 1)", -3);
    above.refusals(0, 0, 3, 0, 0);
    below.refusals(0, 0, 3, 0, 0);
  }

  private static void evenOnes() {
    // Areas of valuation -1, 0, 1, -2, and 0 itself.
    Run run = run("even").with("point(1, 1)", "point(101, 1)", "point(1, 101)", "point(1, 201)", "point(1, 401)");
    run.with("triangle(0, 0, 1, 2)", "triangle(0, 0, 1, 3)", "triangle(0, 0, 1, 4)", "triangle(1, 0, 1, 2)");
    run.with("triangle(5, 0, 1, 2)").is("tri(0, 6)", 99).is("tri(1, 6)", 100).is("tri(2, 6)", 101);
    run.is("tri(3, 6)", 98).is("tri(4, 6)", 199).is("even(31, 0)", 9).is("even(22, 0)", 0).is("even(16, 0)", 0);
    run.is("even(1, 0)", 1).is("even(8, 0)", 8).is("even(0, 0)", 0);
    // A valuation of 0 in other least terms: 1 by 3.
    Run odd = run("odd").with("point(1, 1)", "point(203, 1)", "point(1, 101)", "triangle(0, 0, 1, 2)");
    odd.is("area(0, 0)", 1).is("area(0, 1)", 3).is("even(1, 0)", 0).is("tri(0, 6)", 100).is("even(1, 1)", 0);
    // Rainbows are told alike: one of three colours, one of two, and of no triangle none.
    Run bows = run("rainbows").with("point(1, 1)", "point(101, 1)", "point(1, 101)", "point(1, 201)");
    bows.with("triangle(0, 0, 1, 3)", "triangle(0, 0, 1, 2)").is("tri(0, 4)", 3).is("tri(1, 4)", 7);
    bows.is("even(3, 1)", 2).is("even(2, 1)", 2).is("even(1, 1)", 0).is("even(0, 1)", 0);
  }

  private static void alike() {
    Run run = run("alike").is("even(0, 2)", 1).with("point(1, 1)", "point(101, 1)", "point(1, 101)", "point(1, 201)");
    run.with("triangle(0, 0, 1, 2)").is("even(0, 2)", 1).is("even(1, 2)", 1);
    // 1 by 2 as half of what a triangle of twice the height has, and as that of a mirrored one.
    run.with("triangle(1, 0, 1, 3)", "triangle(3, 0, 1, 2)", "triangle(0, 0, 1, 3)").is("even(7, 2)", 1);
    run.is("even(15, 2)", 0).is("even(9, 2)", 0).is("even(8, 2)", 1).is("even(0, 2)", 1);
    // Unlike at the first and the last of three alone.
    run.with("triangle(5, 0, 1, 2)").is("even(19, 2)", 0).is("even(16, 2)", 1).is("even(24, 2)", 0);
  }

  private static void floats() {
    Run none = run("floats of none").is("bitsOf(0, 0)", 0).is("bitsOf(0, 1)", 0).is("longBits(0)", 0);
    none.with("point(1, 1)", "point(101, 1)", "point(1, 101)", "triangle(5, 0, 1, 2)", "triangle(0, 0, 1, 2)");
    none.is("bitsOf(0, 0)", 0).is("bitsOf(0, 1)", 0).is("longBits(0)", 0).is("bits(0)", 0).is("bitsOf(1, 0)", 0);
    none.is("longBits(1)", 0).is("bits(1)", 0x3f000000).is("bitsOf(3, 0)", 0x3f000000).is("bitsOf(3, 1)", 500);
    none.is("longBits(3)", 0x3fe0000000000000L);
    // Numbers above and below the line that no float holds: each is made a float before they are divided.
    Run great = run("floats of great numbers").with("point(1427, 473)", "point(4217, 8041)", "point(6613, 7811)");
    great.with("triangle(2, 0, 1, 2)").is("bits(0)", Float.floatToIntBits(1000000000.0f / (float) 196451541));
    great.is("longBits(1)", Double.doubleToLongBits(1000000000.0 / 196451541.0));
    Run small = run("a small area").with("point(199, 199)", "point(198, 199)", "point(199, 198)");
    small.with("triangle(4, 0, 1, 2)");
    long below = 8L * 99 * 98 * 99 * 98;
    small.is("area(0, 0)", 1).is("area(0, 1)", below).is("bits(0)", Float.floatToIntBits(1.0f / (float) below));
    small.is("longBits(1)", Double.doubleToLongBits(1.0 / (double) below)).is("bitsOf(1, 1)", 0);
  }

  private static void floatsByNumbers() {
    // 9801 first and three small ones behind it lose what the small ones together would keep.
    String[] points = {"point(1, 1)", "point(9901, 1)", "point(1, 9901)", "point(199, 1)", "point(1, 126)"};
    float small = 1.0f / 2574.0f;
    Run first = run("the great one first").with(points).with("triangle(2, 0, 1, 2)");
    Run last = run("the great one last").with(points);
    for (int i = 0; i < 3; i++) {
      first.with("triangle(2, 0, 3, 4)");
      last.with("triangle(2, 0, 3, 4)");
    }
    last.with("triangle(2, 0, 1, 2)");
    int lost = Float.floatToIntBits(((9801.0f + small) + small) + small);
    int kept = Float.floatToIntBits(((small + small) + small) + 9801.0f);
    due.is("the order makes a difference", lost == kept ? 1 : 0, 0);
    first.is("bitsOf(15, 0)", lost);
    last.is("bitsOf(15, 0)", kept);
    double tiny = 1.0 / 2574.0;
    first.is("longBits(15)", Double.doubleToLongBits(((9801.0 + tiny) + tiny) + tiny));
    last.is("longBits(15)", Double.doubleToLongBits(((tiny + tiny) + tiny) + 9801.0));
  }

  private static void cutDown() {
    // 1 by 1000 less a bit is cut to 0; 2 by 3 to 666; the greatest sum of ten areas fits an int.
    Run run = run("cut down").with("point(1, 1)", "point(150, 1)", "point(1, 141)", "point(201, 1)", "point(1, 103)");
    run.with("triangle(0, 0, 1, 2)", "triangle(2, 0, 3, 4)").is("area(0, 1)", 4100).is("bitsOf(1, 1)", 0);
    run.is("area(1, 0)", 2).is("area(1, 1)", 3).is("bitsOf(2, 1)", 666);
    Run great = run("the greatest sum cut down").with("point(1, 1)", "point(9901, 1)", "point(1, 9901)");
    for (int i = 0; i < 10; i++) {
      great.with("triangle(2, 0, 1, 2)");
    }
    great.is("bitsOf(1023, 1)", 98010000).is("bitsOf(1023, 0)", Float.floatToIntBits(98010.0f));
    great.is("sum(1023, 0)", 98010).is("sum(1023, 1)", 1).is("even(1023, 2)", 1).is("even(1023, 0)", 0);
  }

  private static void racks() {
    Run run = run("racks").type(THREE).is("text()", 3).with("triangle(1, 0, 1, 2)", "triangle(4, 0, 1, 2)");
    for (int row = 0; row < 3; row++) {
      run.is("rack(" + row + ", 1, 9)", 1).is("racked(" + row + ", 0, 0)", -9).is("racked(" + row + ", 8, 1)", -9);
      run.is("racks(" + row + ", 8, 1)", 1).is("racked(" + row + ", 8, 0)", 4).is("racked(" + row + ", 8, 1)", 97);
      run.refused("racks(" + row + ", 9, 1)", -13).is("rack(" + row + ", 0, 0)", 1);
      run.refused("racked(" + row + ", 0, 0)", -13).refused("racks(" + row + ", 0, -1)", -13);
    }
    run.refusals(0, 0, 0, 0, 0);
    // As another one is now: what comes later to either doesn't come to the other.
    Run like = run("like").type(THREE).is("text()", 3).with("triangle(1, 0, 1, 2)", "triangle(4, 0, 1, 2)");
    like.with("rack(0, 1, 2)", "racks(0, 0, 0)").is("like(1, 0)", 2).is("like(2, 1)", 2);
    like.with("racks(0, 0, 1)", "racks(1, 1, 1)", "rack(2, 4, 9)").is("racked(0, 0, 0)", 4).is("racked(0, 1, 0)", -9);
    like.is("racked(1, 0, 0)", 1).is("racked(1, 1, 0)", 4).is("racked(2, 0, 0)", -9).refused("racks(2, 0, 0)", -16);
    // An empty place, a row of none and the kind that it is made for come along.
    like.is("like(1, 2)", 9).refused("racks(1, 8, 0)", -16).is("racks(1, 8, 1)", 1).is("racked(2, 8, 0)", -9);
    like.is("rack(0, 5, 0)", 1).is("like(1, 0)", 0).refused("racked(1, 0, 0)", -13).is("like(1, 1)", 0);
  }

  private static void lists() {
    Run run = run("lists");
    for (int row = 0; row < 3; row++) {
      run.is("list(" + row + ", 40)", 1).is("look(" + row + ", 0)", 0).is("look(" + row + ", 39)", 0);
      run.is("put(" + row + ", 39, -2147483648)", 1).is("look(" + row + ", 39)", Integer.MIN_VALUE);
      run.is("put(" + row + ", 0, 2147483647)", 1).is("look(" + row + ", 0)", Integer.MAX_VALUE);
      run.refused("put(" + row + ", 40, 1)", -13).refused("look(" + row + ", 40)", -13);
      run.is("list(" + row + ", 1)", 1).is("look(" + row + ", 0)", 0).refused("look(" + row + ", 1)", -13);
      run.is("list(" + row + ", 40)", 1).is("look(" + row + ", 39)", 0);
    }
    run.refusals(0, 0, 0, 0, 0);
  }

  private static void judged() {
    // The ways of a new object's pieces: 0, 0, 2, 1, 0.
    int[] ways = {0, 0, 2, 1, 0};
    for (int n = 0; n <= 7; n++) {
      Run run = run("a list of " + n).with("list(1, " + n + ")");
      for (int i = 0; i < Math.min(n, 5); i++) {
        run.is("put(1, " + i + ", " + ways[i] + ")", 1);
      }
      // Fewer and as many as there are; then one that isn't there, whatever it is told to be.
      run.is("judge(1)", n <= 5 ? -9 : 5);
      if (n > 5) {
        run.with("put(1, 5, -9)").is("judge(1)", 5).with("put(1, 5, -1)").is("judge(1)", 5);
      }
      for (int i = Math.min(n, 5) - 1; i >= 0; i--) {
        run.with("put(1, " + i + ", " + (ways[i] + 1) + ")").is("judge(1)", i);
        run.with("put(1, " + i + ", " + (ways[i] - 4) + ")").is("judge(1)", i);
      }
      run.refusals(0, 0, 0, 0, 0);
    }
    run("no piece at all").with("board(0, 0, 0)", "list(0, 1)").is("judge(0)", 0).with("list(0, 0)").is("judge(0)", -9);
  }

  private static void texts() {
    Run run = run("72 letters").type("b20301;r01230;r10000;b30706;r23210;b20103;" + THREE).is("count(3)", 72);
    run.refused("letter(59)", -6).is("text()", 9).is("count(3)", 0).is("count(1)", 3).is("count(4)", 1);
    run.is("count(5)", 3).is("address(0, 0, 1)", 1).is("address(0, 1, 1)", 2).is("address(1, 0, 1)", 0);
    run.is("address(2, 0, 1)", 3).is("address(2, 3, 1)", 0).is("address(3, 3, 1)", 3);
    // Twelve statements are the most that 72 letters tell.
    String six = "t5012;t4012;t3012;t2012;t1012;t0012;";
    run.text(six.substring(0, 60 - 30), 5).text("t5012;t4012;t3012;t2012;t1012;", 5).is("count(2)", 10);
    run.text(six + six, -2000).is("count(2)", 10).is("count(3)", 0);
    Run least = run("the least and the greatest numbers");
    least.text("b00000;", 1).text("b41515;", 1).text("r00000;", 1).text("r33333;", 1).text("p00010001;", 1);
    least.text("p99999999;", 1).text("p00990199;", 1).text("t0012;", 1).text("t5210;", 1).is("count(2)", 2);
    least.refusals(0, 0, 0, 0, 0);
    // Points of digits 0 .. 9, the last that there can be.
    Run ten = run("point 9").text(THREE + THREE, 6).text(THREE, 3).text("t0089;", -2000).text("t0987;", -2000);
    ten.text("p01010101;t0987;t0908;", 3).is("tri(0, 1)", 9).is("tri(0, 2)", 8).is("tri(0, 3)", 7);
    ten.text("p01010101;", -2000).is("count(1)", 10).is("tri(1, 2)", 0);
  }

  private static void fault(String letters, long want) {
    Run run = run("fault").text(letters, want).is("count(0)", 2).is("count(1)", 0).is("count(2)", 0);
    run.is("count(3)", 0).is("count(4)", 0).is("address(0, 1, 1)", 2).refusals(0, 0, 0, 0, 0);
  }

  private static void faults() {
    // Kind 1: something lacks, at each place of each statement; a letter too many; a wrong one.
    String[] statements = {"b10101;", "r01111;", "p01010101;", "t0012;"};
    for (String statement : statements) {
      for (int i = 0; i < statement.length(); i++) {
        fault(statement.substring(0, i), -1000 - i);
        for (char wrong : new char[] {0, ' ', '/', ':', 'a', 255, i == statement.length() - 1 ? '0' : ';'}) {
          fault(statement.substring(0, i) + wrong + statement.substring(i + 1), -1000 - i);
          fault("b10000;" + statement.substring(0, i) + wrong + statement.substring(i + 1), -1007 - i);
        }
      }
    }
    fault("", -1000);
    // Kind 1 is told ahead of kind 2, wherever it is.
    fault("b50000;x", -1007);
    fault("r40000;t6789;p", -1014);
    // Kind 2: each number one too great, and where the statement begins.
    String[] wrong = {"b50000;", "b00100;", "b00001;", "b10200;", "b10002;", "b20400;", "b20004;", "b30800;",
        "b30008;", "b41600;", "b40016;", "r40000;", "r04000;", "r00400;", "r00040;", "r00004;", "p00000001;",
        "p00010000;", "t0012;"};
    for (String statement : wrong) {
      fault(statement, -2000);
      fault("b10000;" + statement, -2007);
      fault("b10000;" + statement + "b50000;", -2007);
      fault("p01010101;r11111;" + statement + "r00000;", -2017);
    }
    String[] triangles = {"t6012;", "t9012;", "t0312;", "t0032;", "t0013;", "t0002;", "t0010;", "t0011;", "t0000;"};
    for (String triangle : triangles) {
      fault(THREE + triangle, -2030);
      fault(THREE + "t5012;" + triangle, -2036);
    }
    // Points that come in the same text, but behind.
    fault("p01010101;p01010101;t0012;p01010101;", -2020);
    fault("t0012;" + THREE, -2000);
  }

  private static void images() {
    Run run = run("the image").refused("on()", -3).is("image()", 0).is("on()", 0).with("point(101, 101)");
    run.is("on()", 0).is("count(1)", 0).with("point(101, 101)", "point(202, 303)").is("image()", 2);
    run.with("point(1, 1)").is("on()", 2).is("on()", 2).is("count(1)", 2).is("colour(1, 1)", 100);
    run.refusals(0, 0, 1, 0, 0);
    Run full = new Run(due, "the image of ten", State.full()).is("image()", 10).refused("point(1, 1)", -6);
    full.is("on()", 10).is("count(2)", 10).refused("triangle(0, 0, 1, 2)", -6).is("count(0)", 3);
    // What a text brings is as then, too.
    Run text = run("the image ahead of a text").with("image()").text("b10101;r01111;" + THREE + "t0012;", 6);
    text.is("on()", 0).is("count(0)", 2).is("count(2)", 0).is("address(0, 0, 1)", 0).is("pieces(0)", 5);
  }

  private static void imageStays() {
    Run run = run("what stays").with("image()").type(THREE).is("text()", 3).with("triangle(4, 0, 1, 2)");
    run.with("rack(0, 1, 9)", "racks(0, 8, 0)", "like(1, 0)", "list(2, 40)", "put(2, 39, 5)").type("b10101;");
    run.refused("piece(9, 9)", -1).refused("pieces(9)", -2).refused("letter(-1)", -4).refused("letter(256)", -6);
    run.is("on()", 0).is("count(1)", 0).is("count(2)", 0).is("count(3)", 7).is("look(2, 39)", 5);
    run.is("racked(0, 8, 0)", 4).is("racked(1, 8, 1)", 97).refused("racks(0, 0, 0)", -1).is("racks(0, 8, -1)", 1);
    run.is("racked(1, 8, 0)", 4).refused("judge(0)", -11).refused("racked(2, 0, 0)", -11);
    run.refusals(2, 1, 0, 1, 1).is("text()", 1).is("count(0)", 1).is("on()", 0).is("count(0)", 2);
    // Nor does taking an image change what stays.
    run.type("b1").is("image()", 0).is("count(3)", 2).is("look(2, 39)", 5).refusals(2, 1, 0, 1, 1);
  }

  /** What the last of 512 calls answers is still promised. */
  private static void lastCall() {
    CutInCopies x = new CutInCopies();
    for (int i = 0; i < 511; i++) {
      int hole = i % 256;
      x.board(4, hole % 16, hole / 16);
    }
    due.is("the last call", x.piece(254 % 16, 254 / 16), -9);
    CutInCopies y = new CutInCopies();
    for (int i = 0; i < 102; i++) {
      due.is("texts all along", Due.text(y, "p0/"), -1002);
    }
    due.is("letters at last", y.count(3), 0);
  }
}
