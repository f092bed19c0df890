import java.util.function.Consumer;
import java.util.function.Supplier;

/** Objects in some states, and all that can be seen of an object but for its refusals. */
final class State {
  private static final int VIEWS = 3;
  /** 72 letters, which are a text on the image of a full object. */
  static final String FULL_TEXT = "b20301;r01230;r10000;b30706;r23210;b20103;t0012;t1120;t2201;t3102;t5210;";

  private State() {
  }

  /** Something of everything but letters; the image has other points, another board, another rule. */
  static CutInCopies bare() {
    CutInCopies x = new CutInCopies();
    x.board(1, 0, 1);
    x.rule(2, 2, 2);
    x.point(101, 101);
    x.point(1, 201);
    x.point(301, 1);
    x.image();
    x.board(2, 1, 2);
    x.rule(0, 3, 2);
    x.point(102, 103);
    x.triangle(1, 0, 1, 2);
    x.triangle(3, 1, 2, 3);
    x.triangle(4, 0, 2, 3);
    x.rack(0, 1, 3);
    x.racks(0, 1, 0);
    x.racks(0, 2, 2);
    x.rack(2, 0, 0);
    x.list(0, 3);
    x.put(0, 0, 7);
    x.put(0, 2, -7);
    x.list(2, 0);
    return x;
  }

  static CutInCopies some() {
    CutInCopies x = bare();
    Due.type(x, "b20301;p01010202;t2012;");
    return x;
  }

  /** No room for a letter, a point or a triangle; each rack and each list as long as they may be. */
  static CutInCopies full() {
    CutInCopies x = new CutInCopies();
    x.board(3, 5, 2);
    for (int i = 0; i < 10; i++) {
      if (i == 3) {
        x.image();
      }
      x.point(101 * i + 1, 9999 - 203 * i);
    }
    for (int i = 0; i < 10; i++) {
      x.triangle(i % 6, i, (i + 1) % 10, (i + 5) % 10);
    }
    x.board(3, 2, 6);
    x.rule(1, 1, 1);
    for (int row = 0; row < 3; row++) {
      x.rack(row, row, 9);
      x.racks(row, 8, row);
      x.list(row, 40);
      x.put(row, 39, 10 + row);
    }
    Due.type(x, FULL_TEXT);
    return x;
  }

  /** What is seen of a new object of that kind behind a call; each part of it on an object of its own. */
  static String behind(Supplier<CutInCopies> made, Consumer<CutInCopies> call) {
    StringBuilder told = new StringBuilder();
    for (int view = 0; view < VIEWS; view++) {
      CutInCopies x = made.get();
      call.accept(x);
      tell(told, x, view);
      told.append(" on ").append(x.on());
      tell(told, x, view);
      told.append(" text ").append(x.text());
      tell(told, x, view);
      if (view == 2) {
        tellRows(told, x);
      }
    }
    return told.toString();
  }

  static int[] refusals(CutInCopies x) {
    int[] often = new int[7];
    for (int i = 1; i <= 6; i++) {
      often[i] = x.count(10 + i);
    }
    return often;
  }

  private static void tell(StringBuilder told, CutInCopies x, int view) {
    for (int what = 0; what <= 5; what++) {
      told.append(' ').append(x.count(what));
    }
    if (view == 0) {
      tellBoardAndRule(told, x);
    } else if (view == 1) {
      tellShapes(told, x);
    }
  }

  private static void tellBoardAndRule(StringBuilder told, CutInCopies x) {
    int side = 1 << x.count(0);
    told.append(" board");
    for (int i = 0; i < side * side; i++) {
      told.append(' ').append(x.piece(i % side, i / side));
    }
    told.append(" rule");
    for (int i = 0; i < 16; i++) {
      told.append(' ').append(x.address(i / 4, i % 4, 1));
    }
  }

  private static void tellShapes(StringBuilder told, CutInCopies x) {
    told.append(" points");
    for (int i = 0; i < x.count(1); i++) {
      told.append(' ').append(x.colour(i, 1)).append(' ').append(x.colour(i, 2));
    }
    told.append(" triangles");
    for (int i = 0; i < x.count(2); i++) {
      for (int what = 0; what <= 4; what++) {
        told.append(' ').append(x.tri(i, what));
      }
      told.append(' ').append(x.area(i, 0)).append(" by ").append(x.area(i, 1));
    }
  }

  /** Last, as it lays triangles to see for which kinds racks are made. */
  private static void tellRows(StringBuilder told, CutInCopies x) {
    for (int row = 0; row < 3; row++) {
      told.append(" rack");
      for (int i = 0; i <= 9; i++) {
        told.append(' ').append(x.racked(row, i, 0)).append('/').append(x.racked(row, i, 1));
      }
      told.append(" list");
      for (int i = 0; i <= 40; i++) {
        told.append(' ').append(x.look(row, i));
      }
      told.append(" kinds");
      for (int triangle = 0; triangle < 10; triangle++) {
        told.append(' ').append(x.racks(row, 0, triangle));
      }
    }
  }
}
