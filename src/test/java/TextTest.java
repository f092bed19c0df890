/** Promises 2 and 3: letter and text. */
public final class TextTest {
  private static final Due due = new Due();
  private static final String THREE_POINTS = "p01010101;p02010101;p01010201;";

  public static void main(String[] args) {
    letter();
    statements();
    lettersAreNoMore();
    wrongLetters();
    eachLetterOfEachStatement();
    impossible();
    impossibleBehindOthers();
    rooms();
    letterBeforeStatement();
    nothingComesWithFault();
    due.end();
  }

  private static void letter() {
    CutInCopies x = new CutInCopies();
    due.is("2 least", x.letter(0), 1);
    due.is("2 greatest", x.letter(255), 2);
    due.is("2 below", x.letter(-1), -4);
    due.is("2 far below", x.letter(Integer.MIN_VALUE), -4);
    due.is("2 above", x.letter(256), -6);
    due.is("2 far above", x.letter(Integer.MAX_VALUE), -6);
    due.is("2 letters", x.count(3), 2);
    for (int i = 3; i <= 72; i++) {
      due.is("2 letter " + i, x.letter('b'), i);
    }
    due.is("2 no room", x.letter('b'), -6);
    due.is("2 below before room", x.letter(-1), -4);
    due.is("2 letters", x.count(3), 72);
    due.refusals("2", x, 0, 0, 0, 3, 3);
  }

  private static void statements() {
    CutInCopies x = new CutInCopies();
    due.is("3 board", Due.text(x, "b31002;"), -2000);
    due.is("3 board", Due.text(x, "b40915;"), 1);
    due.is("3 n", x.count(0), 4);
    due.is("3 x", x.count(4), 9);
    due.is("3 y", x.count(5), 15);
    due.is("3 pieces", x.pieces(0), 85);
    due.is("3 hole", x.piece(9, 15), -9);
    due.is("3 rule", Due.text(x, "r23210;"), 1);
    for (int part = 0; part < 4; part++) {
      due.is("3 part " + part, x.address(2, part, 1), 3 - part);
      due.is("3 other way " + part, x.address(3, part, 1), new int[] {3, 1, 2, 3}[part]);
    }
    due.is("3 point", Due.text(x, "p00991204;"), 1);
    due.is("3 points", x.count(1), 1);
    due.is("3 x of 0", x.colour(0, 1), 199);
    due.is("3 y of 3", x.colour(0, 2), 100);
    due.is("3 more points", Due.text(x, "p99010001;p00011699;"), 2);
    due.is("3 triangle", Due.text(x, "t2210;"), 1);
    due.is("3 kind", x.tri(0, 0), 2);
    due.is("3 first", x.tri(0, 1), 2);
    due.is("3 second", x.tri(0, 2), 1);
    due.is("3 third", x.tri(0, 3), 0);
    // Points 0, 3; 99, 0; 0, 16/99: twice a plain one's is 99 times (3 less 16/99), without its sign.
    due.is("3 area", x.area(0, 0), 281);
    due.is("3 area below", x.area(0, 1), 1);
    due.is("3 in their order", Due.text(x, "b10001;b20302;r00000;r01111;"), 4);
    due.is("3 the last board", x.count(0), 2);
    due.is("3 the last board's x", x.count(4), 3);
    due.is("3 the last rule", x.address(0, 0, 1), 1);
    due.refusals("3", x, 0, 0, 0, 0, 0);
  }

  private static void lettersAreNoMore() {
    CutInCopies x = new CutInCopies();
    Due.type(x, "b00000;");
    due.is("3 letters", x.count(3), 7);
    due.is("3 without fault", x.text(), 1);
    due.is("3 no letters", x.count(3), 0);
    due.is("3 nothing lacks but all", x.text(), -1000);
    Due.type(x, "b0000");
    due.is("3 with fault", x.text(), -1005);
    due.is("3 no letters", x.count(3), 0);
    Due.type(x, "b90000;");
    due.is("3 with fault of a statement", x.text(), -2000);
    due.is("3 no letters", x.count(3), 0);
    due.is("3 from 1 again", x.letter('b'), 1);
    due.refusals("3", x, 0, 0, 0, 0, 0);
  }

  private static void fault(String letters, int want) {
    CutInCopies x = new CutInCopies();
    due.is("3 text " + letters, Due.text(x, letters), want);
    due.refusals("3 text " + letters, x, 0, 0, 0, 0, 0);
  }

  private static void wrongLetters() {
    fault("", -1000);
    fault(";", -1000);
    fault("B00000;", -1000);
    fault(" b00000;", -1000);
    fault("b00000;;", -1007);
    fault("b00000; ", -1007);
    fault("b00000;b00000;x", -1014);
    fault("b00000", -1006);
    fault("b000000;", -1006);
    fault("b0000;", -1005);
    fault("bx", -1001);
    fault("b", -1001);
    fault("r0123;", -1005);
    fault("r012333;", -1006);
    fault("p0101010;", -1008);
    fault("p010101012;", -1009);
    fault("t012;", -1004);
    fault("t01234;", -1005);
    fault("b0/000;", -1002);
    fault("b0:000;", -1002);
    fault("b00000" + (char) 0, -1006);
    fault("b00" + (char) 0 + "00;", -1003);
    fault("" + (char) 255, -1000);
    fault("b" + (char) 178 + "0000;", -1001);
  }

  private static void eachLetterOfEachStatement() {
    String[] statements = {"b20102;", "r01230;", "p01020304;", "t0123;"};
    for (String statement : statements) {
      for (int i = 0; i < statement.length(); i++) {
        fault(statement.substring(0, i), -1000 - i);
        fault(statement.substring(0, i) + "#" + statement.substring(i + 1), -1000 - i);
        if (i > 0) {
          fault("r00000;" + statement.substring(0, i) + "b", -1007 - i);
        }
      }
    }
  }

  private static void impossible() {
    fault("b50000;", -2000);
    fault("b90000;", -2000);
    fault("b00100;", -2000);
    fault("b00001;", -2000);
    fault("b20400;", -2000);
    fault("b20004;", -2000);
    fault("b41600;", -2000);
    fault("b40016;", -2000);
    fault("b49999;", -2000);
    fault("b41515;", 1);
    fault("r40000;", -2000);
    fault("r04000;", -2000);
    fault("r00400;", -2000);
    fault("r00040;", -2000);
    fault("r00004;", -2000);
    fault("r33333;", 1);
    fault("p00000001;", -2000);
    fault("p00010000;", -2000);
    fault("p99009999;", -2000);
    fault("p00010001;", 1);
    fault("p99999999;", 1);
    fault(THREE_POINTS + "t5012;", 4);
    fault(THREE_POINTS + "t6012;", -2030);
    fault(THREE_POINTS + "t9012;", -2030);
    fault(THREE_POINTS + "t0312;", -2030);
    fault(THREE_POINTS + "t0032;", -2030);
    fault(THREE_POINTS + "t0013;", -2030);
    fault(THREE_POINTS + "t0002;", -2030);
    fault(THREE_POINTS + "t0022;", -2030);
    fault(THREE_POINTS + "t0011;", -2030);
    fault(THREE_POINTS + "t0101;", -2030);
  }

  private static void impossibleBehindOthers() {
    fault("t0012;" + THREE_POINTS, -2000);
    fault("p01010101;p02010101;t0012;p01010201;", -2020);
    fault("b20000;b50000;b60000;", -2007);
    fault(THREE_POINTS + "t0012;b50000;t0019;", -2036);
    fault("p01010101;p02010101;b00000;r00000;t0012;", -2034);
    CutInCopies x = new CutInCopies();
    due.is("3 points", Due.text(x, THREE_POINTS), 3);
    due.is("3 points of an earlier text", Due.text(x, "t0012;"), 1);
    due.is("3 and one of this", Due.text(x, "p05050101;t0312;"), 2);
    due.is("3 no such one of this", Due.text(x, "p05050101;t0512;"), -2010);
    due.is("3 points", x.count(1), 4);
    due.is("3 triangles", x.count(2), 2);
  }

  private static void rooms() {
    CutInCopies x = new CutInCopies();
    due.is("3 six points", Due.text(x, THREE_POINTS + THREE_POINTS), 6);
    due.is("3 eleven", Due.text(x, THREE_POINTS + "p01010101;p01010101;"), -2040);
    due.is("3 still six", x.count(1), 6);
    due.is("3 nine", Due.text(x, THREE_POINTS), 3);
    due.is("3 ten", Due.text(x, "b00000;r00000;p01010101;"), 3);
    due.is("3 ten there are", Due.text(x, "b00000;p01010101;"), -2007);
    String four = "t0012;t0129;t0987;t5456;";
    due.is("3 eight triangles", Due.text(x, four + four), 8);
    due.is("3 twelve", Due.text(x, four), -2012);
    due.is("3 still eight", x.count(2), 8);
    due.is("3 ten triangles", Due.text(x, "t0012;b00000;r00000;t0129;"), 4);
    due.is("3 ten triangles there are", Due.text(x, "t0012;"), -2000);
    due.is("3 ten", x.count(2), 10);
    due.refusals("3", x, 0, 0, 0, 0, 0);
    CutInCopies y = new CutInCopies();
    Due.text(y, THREE_POINTS);
    due.is("3 one triangle", Due.text(y, "t0012;"), 1);
    StringBuilder twelve = new StringBuilder();
    for (int i = 0; i < 12; i++) {
      twelve.append("t0012;");
    }
    due.is("3 the tenth more", Due.text(y, twelve.toString()), -2054);
    StringBuilder ten = new StringBuilder();
    for (int i = 0; i < 10; i++) {
      ten.append("b00000;");
    }
    due.is("3 ten statements", Due.text(new CutInCopies(), ten.toString()), 10);
    fault(ten + "r0", -1072);
    fault(ten + "r#", -1071);
    fault(ten + "#0", -1070);
  }

  private static void letterBeforeStatement() {
    fault("b50000;b20000", -1013);
    fault("b50000;x", -1007);
    fault("t0012;p#", -1007);
  }

  private static void nothingComesWithFault() {
    String all = "b10101;r01111;p01010101;";
    CutInCopies x = new CutInCopies();
    due.is("3 fault of a letter", Due.text(x, all + "x"), -1024);
    due.is("3 fault of a statement", Due.text(x, all + "t0000;"), -2024);
    due.is("3 no board", x.count(0), 2);
    due.is("3 no hole", x.count(4), 0);
    due.is("3 no rule", x.address(0, 0, 1), 0);
    due.is("3 no point", x.count(1), 0);
    due.is("3 all of it", Due.text(x, all), 3);
    due.is("3 board", x.count(0), 1);
    due.is("3 hole", x.count(4), 1);
    due.is("3 rule", x.address(0, 0, 1), 1);
    due.is("3 point", x.count(1), 1);
  }
}
