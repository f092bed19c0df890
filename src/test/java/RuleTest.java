/** Promises 10 to 16: rule, behind, address, meet, steady, falls, lots. */
public final class RuleTest {
  private static final Due due = new Due();

  public static void main(String[] args) {
    rule();
    behind();
    address();
    meet();
    meetFarOff();
    steady();
    falls();
    lots();
    againstSlowWays();
    due.end();
  }

  /** A new object whose rule is told by 16 digits, way by way. */
  private static CutInCopies withRule(String digits) {
    CutInCopies x = new CutInCopies();
    for (int i = 0; i < 16; i++) {
      x.rule(i / 4, i % 4, digits.charAt(i) - '0');
    }
    return x;
  }

  private static int[][] ways(String digits) {
    int[][] rule = new int[4][4];
    for (int i = 0; i < 16; i++) {
      rule[i / 4][i % 4] = digits.charAt(i) - '0';
    }
    return rule;
  }

  private static void rule() {
    CutInCopies x = new CutInCopies();
    due.is("10 was", x.rule(3, 1, 0), 1);
    due.is("10 was that", x.rule(3, 1, 2), 0);
    due.is("10 way of it", x.address(3, 1, 1), 2);
    due.is("10 other part", x.address(3, 0, 1), 3);
    due.is("10 other way", x.address(1, 1, 1), 3);
    due.is("10 same", x.rule(0, 0, 0), 0);
    int[][] wrong = {{4, 0, 0}, {-1, 0, 0}, {0, 4, 0}, {0, -1, 0}, {0, 0, 4}, {0, 0, -1}};
    for (int[] w : wrong) {
      due.is("10 wrong", x.rule(w[0], w[1], w[2]), -2);
    }
    due.refusals("10", x, 0, 6, 0, 0, 0);
    due.is("10 nothing changed", x.rule(0, 0, 1), 0);
  }

  private static void behind() {
    CutInCopies x = new CutInCopies();
    due.is("11 no cut, itself", x.behind(2, 0, 2), 1);
    due.is("11 no cut, other", x.behind(2, 0, 1), 0);
    long[] two = {6, 4, 4, 2};
    for (int to = 0; to < 4; to++) {
      due.is("11 two cuts " + to, x.behind(0, 2, to), two[to]);
      due.is("11 two cuts of 3 " + to, x.behind(3, 2, to), two[3 - to]);
    }
    CutInCopies all = withRule("1111111111111111");
    due.is("11 all of 15", all.behind(3, 15, 1), 1073741824L);
    due.is("11 none of 15", all.behind(3, 15, 3), 0);
    due.is("11 way", x.behind(4, 0, 0), Due.FAR + 2);
    due.is("11 way below", x.behind(-1, 0, 0), Due.FAR + 2);
    due.is("11 to", x.behind(0, 0, 4), Due.FAR + 2);
    due.is("11 to below", x.behind(0, 0, -1), Due.FAR + 2);
    due.is("11 way before n", x.behind(4, -1, 0), Due.FAR + 2);
    due.is("11 to before n", x.behind(0, 16, 4), Due.FAR + 2);
    due.is("11 n below", x.behind(0, -1, 0), Due.FAR + 4);
    due.is("11 n above", x.behind(0, 16, 0), Due.FAR + 6);
    due.is("11 n greatest", x.behind(0, Integer.MAX_VALUE, 0), Due.FAR + 6);
    due.refusals("11", x, 0, 6, 0, 1, 2);
  }

  private static void address() {
    CutInCopies x = new CutInCopies();
    due.is("12 no digit", x.address(2, 0, 0), 2);
    // The first cut's part is the lowest digit: part 1 and then part 2 of a rule that tells them apart.
    CutInCopies y = withRule("0123112223333333");
    due.is("12 part 1, then 2", y.address(0, 1 + 2 * 4, 2), 2);
    due.is("12 part 2, then 1", y.address(0, 2 + 1 * 4, 2), 3);
    due.is("12 leading noughts", x.address(1, 1, 15), 3);
    due.is("12 most digits", x.address(0, 1073741823, 15), 0);
    due.is("12 15 of part 1", x.address(0, 357913941, 15), 2);
    due.is("12 way", x.address(4, 0, 0), -2);
    due.is("12 way below", x.address(-1, 0, 0), -2);
    due.is("12 way before address", x.address(4, -1, -1), -2);
    due.is("12 way before n", x.address(4, 0, 16), -2);
    due.is("12 address below", x.address(0, -1, 3), -4);
    due.is("12 n below", x.address(0, 0, -1), -4);
    due.is("12 address below before n above", x.address(0, -1, 16), -4);
    due.is("12 n below before address above", x.address(0, 99, -1), -4);
    due.is("12 n above", x.address(0, 0, 16), -6);
    due.is("12 n far above", x.address(0, 0, Integer.MAX_VALUE), -6);
    due.is("12 a digit too many for none", x.address(0, 1, 0), -6);
    due.is("12 digits too many", x.address(0, 64, 3), -6);
    due.is("12 just enough", x.address(0, 63, 3), 0);
    due.is("12 digits too many for 15", x.address(0, 1073741824, 15), -6);
    due.is("12 greatest", x.address(0, Integer.MAX_VALUE, 15), -6);
    due.refusals("12", x, 0, 4, 0, 4, 6);
  }

  private static void meet() {
    CutInCopies x = new CutInCopies();
    for (int way = 0; way < 4; way++) {
      due.is("13 itself digits", x.meet(way, way, 0), 0);
      due.is("13 itself address", x.meet(way, way, 1), 0);
      due.is("13 never digits", x.meet(way, way ^ 1, 0), -9);
      due.is("13 never address", x.meet(way, way ^ 1, 1), -9);
    }
    x.rule(0, 3, 2);
    x.rule(1, 3, 2);
    due.is("13 at part 3 digits", x.meet(0, 1, 0), 1);
    due.is("13 at part 3 address", x.meet(1, 0, 1), 3);
    due.is("13 way", x.meet(4, 0, 0), -2);
    due.is("13 way below", x.meet(-1, 0, 0), -2);
    due.is("13 other", x.meet(0, 4, 0), -2);
    due.is("13 other below", x.meet(0, -1, 0), -2);
    due.is("13 what", x.meet(0, 0, 2), -2);
    due.is("13 what below", x.meet(0, 0, -1), -2);
    due.refusals("13", x, 0, 6, 0, 0, 0);
  }

  /** Ways that turn by part 0 and meet at other parts only from one pair: the way there is long. */
  private static void meetFarOff() {
    // Part 0 turns 0 1 2 3; each other part keeps them, but for part 2, by which 3 becomes 0.
    CutInCopies x = withRule("1000211132220303");
    due.is("13 of 0 and 3 digits", x.meet(0, 3, 0), 1);
    due.is("13 of 0 and 3 address", x.meet(0, 3, 1), 2);
    due.is("13 of 2 and 1 digits", x.meet(2, 1, 0), 3);
    due.is("13 of 2 and 1 address", x.meet(2, 1, 1), 32);
    for (int way = 0; way < 4; way++) {
      for (int other = 0; other < 4; other++) {
        meetSlowly(x, ways("1000211132220303"), way, other);
      }
    }
  }

  private static int wayAt(int[][] rule, int way, int address, int digits) {
    int there = way;
    for (int i = 0; i < digits; i++) {
      there = rule[there][address / (int) Math.pow(4, i) % 4];
    }
    return there;
  }

  private static void meetSlowly(CutInCopies x, int[][] rule, int way, int other) {
    for (int digits = 0; digits <= 6; digits++) {
      for (int address = 0; address < 1 << (2 * digits); address++) {
        if (wayAt(rule, way, address, digits) == wayAt(rule, other, address, digits)) {
          due.is("13 digits of " + way + " " + other, x.meet(way, other, 0), digits);
          due.is("13 address of " + way + " " + other, x.meet(way, other, 1), address);
          return;
        }
      }
    }
    due.is("13 none of " + way + " " + other, x.meet(way, other, 0), -9);
    due.is("13 no address of " + way + " " + other, x.meet(way, other, 1), -9);
  }

  private static void steady() {
    // 0, 1, 2 lead on and 3 stays.
    CutInCopies on = withRule("1111222233333333");
    due.is("14 only 3 is steady", on.steady(0), 8);
    // Two that change places, one that stays, and one from which all can be reached.
    CutInCopies x = withRule("1111000022220123");
    due.is("14 both of two", x.steady(0), 3);
    due.is("14 both of two, from the other", x.steady(1), 3);
    due.is("14 itself", x.steady(2), 4);
    due.is("14 all", x.steady(3), 15);
    // A ring of four: behind 4 cuts one lies as at first, behind more in each way.
    due.is("14 ring", withRule("1111222233330000").steady(1), 15);
    due.is("14 way", x.steady(4), -2);
    due.is("14 way below", x.steady(-1), -2);
    due.refusals("14", x, 0, 2, 0, 0, 0);
  }

  private static void falls() {
    CutInCopies x = withRule("0123000011112222");
    due.is("15 at once", x.falls(0), 1);
    due.is("15 behind two", x.falls(1), 2);
    due.is("15 behind three", x.falls(2), 3);
    due.is("15 behind four", x.falls(3), 4);
    CutInCopies never = new CutInCopies();
    due.is("15 never", never.falls(3), -9);
    due.is("15 three alike", withRule("0012001200120012").falls(0), -9);
    due.is("15 two and two", withRule("0011001100110011").falls(0), -9);
    due.is("15 all in one", withRule("3333333333333333").falls(0), -9);
    due.is("15 behind six", withRule("1111222200332222").falls(0), 6);
    due.is("15 two by two", withRule("0011223300001111").falls(0), 2);
    due.is("15 way", x.falls(4), -2);
    due.is("15 way below", x.falls(-1), -2);
    due.refusals("15", x, 0, 2, 0, 0, 0);
  }

  private static void lots() {
    CutInCopies x = withRule("0123123023013012");
    int[][] rule = ways("0123123023013012");
    int[] seeds = {0, 1, 5, -1, Integer.MIN_VALUE, Integer.MAX_VALUE, 987654321};
    int[] times = {1, 2, 20, 50};
    for (int seed : seeds) {
      for (int n : times) {
        long z = seed;
        int zeros = 0;
        int together = 0;
        for (int i = 0; i < n; i++) {
          int there = seed & 3;
          for (int digit = 0; digit < 8; digit++) {
            z = (int) (z * 1664525L + 1013904223L);
            there = rule[there][(int) (((z % 2147483648L + 2147483648L) % 2147483648L) / 256 % 4)];
          }
          zeros += there == 0 ? 1 : 0;
          together += there;
        }
        due.is("16 zeros of " + n + " from " + seed, x.lots(seed & 3, n, seed, 0), zeros);
        due.is("16 together of " + n + " from " + seed, x.lots(seed & 3, n, seed, 1), together);
      }
    }
    CutInCopies three = withRule("3333333333333333");
    due.is("16 all in way 3", three.lots(0, 50, 7, 1), 150);
    due.is("16 none in way 0", three.lots(0, 50, 7, 0), 0);
    due.is("16 way", x.lots(4, 1, 0, 0), -2);
    due.is("16 way below", x.lots(-1, 1, 0, 0), -2);
    due.is("16 what", x.lots(0, 1, 0, 2), -2);
    due.is("16 what below", x.lots(0, 1, 0, -1), -2);
    due.is("16 what before n", x.lots(0, 0, 0, 2), -2);
    due.is("16 way before n", x.lots(4, 51, 0, 0), -2);
    due.is("16 n below", x.lots(0, 0, 0, 0), -4);
    due.is("16 n far below", x.lots(0, Integer.MIN_VALUE, 0, 0), -4);
    due.is("16 n above", x.lots(0, 51, 0, 0), -6);
    due.refusals("16", x, 0, 6, 0, 2, 1);
  }

  /** Rules that are made by turns, each looked at by going through all addresses. */
  private static void againstSlowWays() {
    int z = 12345;
    for (int turn = 0; turn < 60; turn++) {
      StringBuilder digits = new StringBuilder();
      for (int i = 0; i < 16; i++) {
        z = z * 1103515245 + 12345;
        // Every third rule is near to one that only changes ways about, so that meetings come late.
        int way = turn % 3 == 0 && i % 4 != 3 ? (i / 4 + i % 4 + turn) % 4 : z >>> 20 & 3;
        digits.append((char) ('0' + way));
      }
      slowRule(digits.toString());
    }
  }

  private static void slowRule(String digits) {
    CutInCopies x = withRule(digits);
    int[][] rule = ways(digits);
    for (int way = 0; way < 4; way++) {
      int steady = 0;
      int falls = -9;
      for (int cuts = 0; cuts <= 7; cuts++) {
        int[] often = new int[4];
        for (int address = 0; address < 1 << (2 * cuts); address++) {
          often[wayAt(rule, way, address, cuts)]++;
        }
        for (int to = 0; to < 4; to++) {
          steady |= cuts >= 4 && often[to] > 0 ? 1 << to : 0;
          if (cuts % 3 == 1) {
            due.is("11 " + digits + " " + way + " " + cuts + " " + to, x.behind(way, cuts, to), often[to]);
          }
        }
        boolean alike = often[0] == often[1] && often[1] == often[2] && often[2] == often[3];
        falls = falls < 0 && alike && cuts > 0 ? cuts : falls;
      }
      due.is("14 " + digits + " " + way, x.steady(way), steady);
      if (falls > 0) {
        due.is("15 " + digits + " " + way, x.falls(way), falls);
      }
      for (int other = 0; other < 4; other++) {
        meetSlowly(x, rule, way, other);
      }
    }
  }
}
