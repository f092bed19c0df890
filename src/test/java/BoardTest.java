/** Promises 1 and 4 to 9: a new object, board, piece, of, within, pieces, odds. */
public final class BoardTest {
  private static final Due due = new Due();

  public static void main(String[] args) {
    newObject();
    board();
    piece();
    of();
    touching();
    within();
    pieces();
    odds();
    everyBoardIsCovered();
    due.end();
  }

  private static void newObject() {
    CutInCopies x = new CutInCopies();
    due.is("1 n", x.count(0), 2);
    due.is("1 points", x.count(1), 0);
    due.is("1 triangles", x.count(2), 0);
    due.is("1 letters", x.count(3), 0);
    due.is("1 hole x", x.count(4), 0);
    due.is("1 hole y", x.count(5), 0);
    due.refusals("1", x, 0, 0, 0, 0, 0);
    due.is("1 hole", x.piece(0, 0), -9);
    due.is("1 pieces", x.pieces(0), 5);
    int[][] rule = {{0, 2, 1, 0}, {1, 3, 0, 1}, {2, 0, 3, 2}, {3, 1, 2, 3}};
    for (int way = 0; way < 4; way++) {
      for (int part = 0; part < 4; part++) {
        due.is("1 rule " + way + " " + part, x.address(way, part, 1), rule[way][part]);
      }
    }
    due.is("1 no image", x.on(), -3);
    for (int row = 0; row < 3; row++) {
      due.is("1 no rack", x.racked(row, 0, 0), -11);
      due.is("1 no list", x.judge(row), -11);
    }
  }

  private static void board() {
    CutInCopies x = new CutInCopies();
    int[] counts = {0, 1, 5, 21, 85};
    for (int n = 0; n <= 4; n++) {
      int last = (1 << n) - 1;
      due.is("4 board " + n, x.board(n, last, 0), counts[n]);
      due.is("4 n", x.count(0), n);
      due.is("4 x", x.count(4), last);
      due.is("4 y", x.count(5), 0);
      due.is("4 y last", x.board(n, 0, last), counts[n]);
      due.is("4 y", x.count(5), last);
    }
    due.is("4 n below", x.board(-1, 0, 0), -4);
    due.is("4 n below before cell", x.board(-1, -1, 99), -4);
    due.is("4 n least int", x.board(Integer.MIN_VALUE, 0, 0), -4);
    due.is("4 n above", x.board(5, 0, 0), -6);
    due.is("4 n above before cell", x.board(5, -1, -1), -6);
    due.is("4 n greatest int", x.board(Integer.MAX_VALUE, 0, 0), -6);
    due.is("4 no cell x", x.board(3, 8, 0), -1);
    due.is("4 no cell y", x.board(3, 0, 8), -1);
    due.is("4 no cell x below", x.board(3, -1, 0), -1);
    due.is("4 no cell y below", x.board(3, 0, -1), -1);
    due.is("4 no cell of one", x.board(0, 1, 0), -1);
    due.refusals("4", x, 5, 0, 0, 3, 3);
    due.is("4 refused changes nothing", x.count(0), 4);
    due.is("4 refused changes no hole", x.count(5), 15);
    due.is("4 refused changes no pieces", x.pieces(0), 85);
  }

  private static void piece() {
    CutInCopies x = new CutInCopies();
    // The hole in each quarter of a board of 2 by 2, then the board of 4 by 4 with a hole at 2, 1.
    for (int hole = 0; hole < 4; hole++) {
      x.board(1, hole & 1, hole >> 1);
      for (int cell = 0; cell < 4; cell++) {
        due.is("5 hole " + hole + " cell " + cell, x.piece(cell & 1, cell >> 1), cell == hole ? -9 : 0);
      }
    }
    x.board(2, 2, 1);
    int[][] rows = {{1, 1, 2, 2}, {1, 0, -9, 2}, {3, 0, 0, 4}, {3, 3, 4, 4}};
    for (int y = 0; y < 4; y++) {
      for (int column = 0; column < 4; column++) {
        due.is("5 " + column + " " + y, x.piece(column, y), rows[y][column]);
      }
    }
    due.is("5 x below", x.piece(-1, 0), -1);
    due.is("5 y below", x.piece(0, -1), -1);
    due.is("5 x above", x.piece(4, 0), -1);
    due.is("5 y above", x.piece(0, 4), -1);
    due.is("5 far", x.piece(Integer.MAX_VALUE, Integer.MIN_VALUE), -1);
    due.refusals("5", x, 5, 0, 0, 0, 0);
    x.board(0, 0, 0);
    due.is("5 cell of a greater board", x.piece(1, 0), -1);
  }

  private static void of() {
    CutInCopies x = new CutInCopies();
    x.board(2, 2, 1);
    // way, size, x and y of the corner, touching
    int[][] all = {{1, 4, 1, 2, 3}, {3, 2, 0, 0, 3}, {2, 2, 3, 0, 2}, {1, 2, 0, 3, 3}, {0, 2, 3, 3, 3}};
    for (int piece = 0; piece < 5; piece++) {
      for (int what = 0; what < 5; what++) {
        due.is("6 of(" + piece + ", " + what + ")", x.of(piece, what), all[piece][what]);
      }
    }
    due.is("6 no piece", x.of(5, 0), -1);
    due.is("6 piece below", x.of(-1, 0), -1);
    due.is("6 no piece before what", x.of(5, 9), -1);
    due.is("6 what", x.of(0, 5), -2);
    due.is("6 what below", x.of(4, -1), -2);
    due.refusals("6", x, 3, 2, 0, 0, 0);
    x.board(0, 0, 0);
    due.is("6 no piece on one cell", x.of(0, 0), -1);
  }

  private static void touching() {
    CutInCopies x = new CutInCopies();
    due.is("6 alone", x.board(1, 0, 0), 1);
    due.is("6 alone touches", x.of(0, 4), 0);
    for (int n = 2; n <= 4; n++) {
      x.board(n, 1, n);
      int side = 1 << n;
      for (int piece = 0; piece < x.pieces(0); piece += n == 4 ? 7 : 3) {
        CutInCopies y = new CutInCopies();
        y.board(n, 1, n);
        due.is("6 touching " + piece + " of " + n, y.of(piece, 4), slowTouching(y, side, piece));
      }
    }
  }

  private static int slowTouching(CutInCopies x, int side, int piece) {
    java.util.TreeSet<Integer> others = new java.util.TreeSet<>();
    int[][] steps = {{1, 0}, {-1, 0}, {0, 1}, {0, -1}};
    for (int row = 0; row < side; row++) {
      for (int column = 0; column < side; column++) {
        for (int[] step : steps) {
          if (x.piece(column, row) == piece) {
            int other = x.piece(column + step[0], row + step[1]);
            if (other >= 0 && other != piece) {
              others.add(other);
            }
          }
        }
      }
    }
    return others.size();
  }

  private static void within() {
    CutInCopies x = new CutInCopies();
    due.is("7 all", x.within(0, 3, 0, 3), 5);
    due.is("7 one cell", x.within(1, 1, 1, 1), 0);
    due.is("7 upper half", x.within(0, 3, 0, 1), 2);
    due.is("7 lower half", x.within(0, 3, 2, 3), 2);
    due.is("7 middle", x.within(1, 2, 1, 2), 1);
    due.is("7 without the last column", x.within(0, 2, 0, 3), 3);
    due.is("7 without the first column", x.within(1, 3, 0, 3), 3);
    due.is("7 without the last row", x.within(0, 3, 0, 2), 3);
    due.is("7 without the first row", x.within(0, 3, 1, 3), 3);
    due.is("7 corner", x.within(2, 3, 0, 1), 1);
    due.is("7 a above b", x.within(3, 0, 0, 3), 0);
    due.is("7 c above d", x.within(0, 3, 3, 0), 0);
    due.is("7 both above", x.within(3, 0, 3, 0), 0);
    due.refusals("7", x, 0, 0, 0, 0, 0);
    int[][] wrong = {{-1, 3, 0, 3}, {0, 4, 0, 3}, {0, 3, -1, 3}, {0, 3, 0, 4}, {4, 0, 0, 3}, {3, -1, 0, 3},
        {0, 3, 4, 0}, {0, 3, 3, -1}};
    for (int[] w : wrong) {
      due.is("7 no cells", x.within(w[0], w[1], w[2], w[3]), -1);
    }
    due.refusals("7", x, wrong.length, 0, 0, 0, 0);
    x.board(0, 0, 0);
    due.is("7 of one cell", x.within(0, 0, 0, 0), 0);
  }

  private static void pieces() {
    CutInCopies x = new CutInCopies();
    int[] edges = {0, 1, 4, 0, 0};
    for (int n = 0; n <= 4; n++) {
      x.board(n, 0, 0);
      due.is("8 pieces", x.pieces(0), ((1 << (2 * n)) - 1) / 3);
      due.is("8 ways together", x.pieces(10) + x.pieces(11) + x.pieces(12) + x.pieces(13), x.pieces(0));
      if (n < 3) {
        due.is("8 edge", x.pieces(1), edges[n]);
      }
    }
    x.board(3, 5, 2);
    java.util.TreeSet<Integer> seen = new java.util.TreeSet<>();
    for (int i = 0; i < 8; i++) {
      seen.add(x.piece(i, 0));
      seen.add(x.piece(i, 7));
      seen.add(x.piece(0, i));
      seen.add(x.piece(7, i));
    }
    due.is("8 edge of 8 by 8", x.pieces(1), seen.size());
    int[] byWay = new int[4];
    for (int piece = 0; piece < 21; piece++) {
      byWay[x.of(piece, 0)]++;
    }
    for (int way = 0; way < 4; way++) {
      due.is("8 way " + way, x.pieces(10 + way), byWay[way]);
    }
    int[] wrong = {-1, 2, 9, 14, Integer.MIN_VALUE, Integer.MAX_VALUE};
    for (int what : wrong) {
      due.is("8 what " + what, x.pieces(what), -2);
    }
    due.refusals("8", x, 0, wrong.length, 0, 0, 0);
  }

  private static void odds() {
    CutInCopies x = new CutInCopies();
    int[][] first = {{3, 5}, {1, 5}, {1, 5}, {0, 1}};
    for (int way = 0; way < 4; way++) {
      due.is("9 above " + way, x.odds(way, 0), first[way][0]);
      due.is("9 below " + way, x.odds(way, 1), first[way][1]);
    }
    x.board(1, 1, 0);
    due.is("9 sure above", x.odds(1, 0), 1);
    due.is("9 sure below", x.odds(1, 1), 1);
    due.is("9 never above", x.odds(0, 0), 0);
    due.is("9 never below", x.odds(0, 1), 1);
    x.board(0, 0, 0);
    due.is("9 one cell above", x.odds(2, 0), 0);
    due.is("9 one cell below", x.odds(2, 1), 1);
    x.board(3, 5, 2);
    long times = 21 / x.odds(0, 1);
    due.is("9 in least terms", x.odds(0, 0) * times, x.pieces(10));
    due.is("9 way", x.odds(4, 0), Due.FAR + 2);
    due.is("9 way below", x.odds(-1, 1), Due.FAR + 2);
    due.is("9 part", x.odds(0, 2), Due.FAR + 2);
    due.is("9 part below", x.odds(0, -1), Due.FAR + 2);
    due.refusals("9", x, 0, 4, 0, 0, 0);
  }

  /** Each piece has three cells round its corner and leaves out the quarter that its way tells. */
  private static void everyBoardIsCovered() {
    for (int n = 1; n <= 4; n++) {
      int side = 1 << n;
      CutInCopies x = new CutInCopies();
      int holeX = side * 2 / 3;
      int holeY = side / 3;
      int all = x.board(n, holeX, holeY);
      int[] cells = new int[all];
      for (int y = 0; y < side; y++) {
        for (int column = 0; column < side; column++) {
          int piece = x.piece(column, y);
          if (piece >= 0) {
            cells[piece]++;
          } else {
            due.is("5 hole x", column, holeX);
            due.is("5 hole y", y, holeY);
          }
        }
      }
      for (int piece = 0; piece < all; piece += 1 + n / 4 * 4) {
        due.is("4 cells of " + piece, cells[piece], 3);
        int way = x.of(piece, 0);
        int stepX = (way & 1) == 1 ? 1 : -1;
        int stepY = way >= 2 ? 1 : -1;
        int cornerX = x.of(piece, 2);
        int cornerY = x.of(piece, 3);
        due.is("6 corner", x.piece(cornerX, cornerY), piece);
        due.is("6 beside", x.piece(cornerX + stepX, cornerY), piece);
        due.is("6 over", x.piece(cornerX, cornerY + stepY), piece);
      }
    }
  }
}
