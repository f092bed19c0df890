/** No call throws, whatever is asked of an object in whatever state. */
public final class ExtremesTest {
  private static final int[] NUMBERS = {0, 1, 2, 3, 4, 5, 6, 7, 8, 9, 10, 11, 13, 14, 15, 16, 31, 40, 41, 50, 51,
      72, 98, 100, 101, 102, 112, 114, 116, 201, 255, 256, 1023, 9899, 9999, 10000, 10001, 1073741823,
      1073741824, -1, -2, -9, -100, -101, Integer.MIN_VALUE, Integer.MIN_VALUE + 1, Integer.MAX_VALUE};
  private static final int CALLS = 37 - 1;
  private static int z = 1;
  private static int wrong = 0;

  public static void main(String[] args) {
    for (int run = 0; run < 3000; run++) {
      CutInCopies x = new CutInCopies();
      for (int i = 0; i < 512; i++) {
        ask(x, below(CALLS), run % 4);
      }
    }
    System.out.println(wrong == 0 ? "no call threw" : wrong + " calls threw");
    if (wrong != 0) {
      System.exit(1);
    }
  }

  private static int below(int bound) {
    z = z * 1103515245 + 12345;
    return (z >>> 8) % bound;
  }

  /** A number from the row above, or (by the run) mostly a small one. */
  private static int any(int run) {
    return below(4) < run ? below(6) : NUMBERS[below(NUMBERS.length)];
  }

  private static void ask(CutInCopies x, int call, int run) {
    int a = any(run);
    int b = any(run);
    int c = any(run);
    int d = any(run);
    try {
      if (call < 16) {
        askBoardAndRule(x, call, a, b, c, d);
      } else if (call < 26) {
        askPoints(x, call, a, b, c, d);
      } else {
        askRows(x, call, a, b, c);
      }
    } catch (RuntimeException e) {
      wrong++;
      System.out.println("call " + call + " of " + a + ", " + b + ", " + c + ", " + d + " threw " + e);
    }
  }

  private static void askBoardAndRule(CutInCopies x, int call, int a, int b, int c, int d) {
    switch (call) {
      case 0: x.letter(a); break;
      case 1: x.text(); break;
      case 2: x.board(a, b, c); break;
      case 3: x.piece(a, b); break;
      case 4: x.of(a, b); break;
      case 5: x.within(a, b, c, d); break;
      case 6: x.pieces(a); break;
      case 7: x.odds(a, b); break;
      case 8: x.rule(a, b, c); break;
      case 9: x.behind(a, b, c); break;
      case 10: x.address(a, b, c); break;
      case 11: x.meet(a, b, c); break;
      case 12: x.steady(a); break;
      case 13: x.falls(a); break;
      case 14: x.lots(a, b, c, d); break;
      default: x.point(a, b); break;
    }
  }

  private static void askPoints(CutInCopies x, int call, int a, int b, int c, int d) {
    switch (call) {
      case 16: x.colour(a, b); break;
      case 17: x.triangle(a, b, c, d); break;
      case 18: x.tri(a, b); break;
      case 19: x.area(a, b); break;
      case 20: x.sum(a, b); break;
      case 21: x.even(a, b); break;
      case 22: x.bits(a); break;
      case 23: x.bitsOf(a, b); break;
      case 24: x.longBits(a); break;
      default: x.point(101 + below(9899), 101 + below(9899)); break;
    }
  }

  private static void askRows(CutInCopies x, int call, int a, int b, int c) {
    switch (call) {
      case 26: x.rack(a, b, c); break;
      case 27: x.racks(a, b, c); break;
      case 28: x.racked(a, b, c); break;
      case 29: x.like(a, b); break;
      case 30: x.list(a, b); break;
      case 31: x.put(a, b, c); break;
      case 32: x.look(a, b); break;
      case 33: x.judge(a); break;
      case 34: x.image(); break;
      default:
        x.on();
        x.count(a);
        break;
    }
  }
}
