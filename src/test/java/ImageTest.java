/** Promises 35 to 37: image, on, count. */
public final class ImageTest {
  private static final Due due = new Due();

  public static void main(String[] args) {
    noImage();
    all();
    stays();
    again();
    count();
    due.end();
  }

  private static void noImage() {
    CutInCopies x = new CutInCopies();
    due.is("36 no image", x.on(), -3);
    due.is("36 no image again", x.on(), -3);
    due.refusals("36", x, 0, 0, 2, 0, 0);
    due.is("35 no points", x.image(), 0);
    due.is("36 no points", x.on(), 0);
    due.refusals("36", x, 0, 0, 2, 0, 0);
  }

  private static CutInCopies imaged() {
    CutInCopies x = new CutInCopies();
    x.board(3, 5, 2);
    x.rule(0, 0, 3);
    x.point(1, 1);
    x.point(102, 1);
    x.point(1, 103);
    x.triangle(2, 0, 1, 2);
    due.is("35 points", x.image(), 3);
    return x;
  }

  private static void asImaged(CutInCopies x) {
    due.is("36 n", x.count(0), 3);
    due.is("36 points", x.count(1), 3);
    due.is("36 triangles", x.count(2), 1);
    due.is("36 x", x.count(4), 5);
    due.is("36 y", x.count(5), 2);
    due.is("36 pieces", x.pieces(0), 21);
    due.is("36 piece", x.piece(7, 7), 20);
    due.is("36 hole", x.piece(5, 2), -9);
    due.is("36 rule", x.address(0, 0, 1), 3);
    due.is("36 rule of another", x.address(3, 3, 1), 3);
    due.is("36 colour", x.colour(1, 1), 99);
    due.is("36 area above", x.area(0, 0), 1);
    due.is("36 area below", x.area(0, 1), 6);
    due.is("36 kind", x.tri(0, 0), 2);
    due.is("36 no more triangles", x.tri(1, 0), -1);
    due.is("36 no more points", x.colour(3, 0), -1);
  }

  private static void all() {
    CutInCopies x = imaged();
    x.board(1, 0, 1);
    x.rule(0, 0, 1);
    x.rule(3, 3, 0);
    x.point(505, 101);
    x.triangle(0, 3, 1, 2);
    due.is("36 on", x.on(), 3);
    asImaged(x);
    due.is("17 next point", x.point(101, 101), 3);
    due.is("19 next triangle", x.triangle(5, 3, 1, 2), 1);
    due.is("19 its kind", x.tri(1, 0), 5);
  }

  private static void stays() {
    CutInCopies x = imaged();
    x.rack(0, 0, 2);
    x.racks(0, 1, 0);
    x.list(1, 3);
    x.put(1, 2, 44);
    Due.type(x, "b00000;");
    x.piece(-1, 0);
    x.letter(-1);
    due.is("36 on", x.on(), 3);
    due.is("36 letters stay", x.count(3), 7);
    due.is("36 rack stays", x.racked(0, 1, 0), 2);
    due.is("36 list stays", x.look(1, 2), 44);
    due.refusals("36", x, 1, 0, 0, 1, 0);
    due.is("36 letters are a text", x.text(), 1);
    due.is("36 of the board", x.count(0), 0);
  }

  private static void again() {
    CutInCopies x = imaged();
    for (int turn = 0; turn < 3; turn++) {
      due.is("36 on " + turn, x.on(), 3);
      asImaged(x);
      x.board(0, 0, 0);
      x.rule(0, 0, turn);
      x.point(201, 201);
      x.triangle(0, 0, 1, 3);
    }
    due.is("35 anew", x.image(), 4);
    x.rule(0, 0, 0);
    x.board(2, 0, 0);
    x.point(201, 201);
    due.is("36 the new one", x.on(), 4);
    due.is("36 the new one's board", x.count(0), 0);
    due.is("36 the new one's rule", x.address(0, 0, 1), 2);
    due.is("36 the new one's triangles", x.count(2), 2);
  }

  private static void count() {
    CutInCopies x = new CutInCopies();
    int[] others = {-1, 6, 7, 8, 9, 10, 17, 18, Integer.MIN_VALUE, Integer.MAX_VALUE};
    for (int what : others) {
      due.is("37 count(" + what + ")", x.count(what), -9);
    }
    due.refusals("37", x, 0, 0, 0, 0, 0);
    x.board(4, 13, 7);
    x.letter('b');
    x.letter('c');
    x.point(101, 101);
    due.is("37 n", x.count(0), 4);
    due.is("37 points", x.count(1), 1);
    due.is("37 triangles", x.count(2), 0);
    due.is("37 letters", x.count(3), 2);
    due.is("37 x", x.count(4), 13);
    due.is("37 y", x.count(5), 7);
    x.of(-1, 0);
    x.longBits(-1);
    x.odds(9, 9);
    x.behind(0, -1, 0);
    x.behind(0, 16, 0);
    x.on();
    x.sum(1, 0);
    x.look(9, 9);
    due.refusals("37 those refused far, too", x, 4, 1, 1, 1, 1);
    x.look(0, 0);
    x.put(0, 0, 0);
    x.rack(0, 0, -1);
    x.text();
    due.refusals("37 those that are not counted", x, 4, 1, 1, 1, 1);
  }
}
