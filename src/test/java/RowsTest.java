/** Promises 27 to 34: rack, racks, racked, like, list, put, look, judge. */
public final class RowsTest {
  private static final Due due = new Due();
  private static final int[] KIND_ABOVE = {-1, 0, 0, 0, 1, 3};

  public static void main(String[] args) {
    rack();
    racks();
    kinds();
    racked();
    racksKeepWhatWasLaid();
    like();
    list();
    put();
    look();
    judge();
    due.end();
  }

  /** An object with a triangle of each kind, its number its kind, of area 1/2 if it is plain. */
  private static CutInCopies withTriangles() {
    CutInCopies x = new CutInCopies();
    x.point(1, 1);
    x.point(101, 1);
    x.point(1, 101);
    for (int kind = 0; kind < 6; kind++) {
      x.triangle(kind, 0, 1, 2);
    }
    return x;
  }

  private static void rack() {
    CutInCopies x = withTriangles();
    due.is("27 made", x.rack(0, 0, 9), 1);
    due.is("27 last place", x.racked(0, 8, 0), -9);
    due.is("27 no place more", x.racked(0, 9, 0), -13);
    due.is("27 of none", x.rack(2, 5, 0), 1);
    due.is("27 no place at all", x.racked(2, 0, 0), -13);
    x.racks(0, 0, 1);
    x.racks(0, 3, 4);
    due.is("27 anew", x.rack(0, 0, 4), 1);
    due.is("27 anew is empty at first", x.racked(0, 0, 0), -9);
    due.is("27 anew is empty", x.racked(0, 3, 0), -9);
    due.is("27 anew is shorter", x.racked(0, 4, 0), -13);
    due.is("27 greater again", x.rack(0, 2, 9), 1);
    due.is("27 of another kind", x.racks(0, 0, 0), -16);
    due.is("27 other missing", x.racked(1, 0, 0), -11);
    due.is("27 no rack", x.rack(3, 0, 1), -1);
    due.is("27 rack below", x.rack(-1, 0, 1), -1);
    due.is("27 rack before kind", x.rack(3, 6, 10), -1);
    due.is("27 kind", x.rack(0, 6, 1), -2);
    due.is("27 kind below", x.rack(0, -1, 1), -2);
    due.is("27 kind before room", x.rack(0, 6, 10), -2);
    due.is("27 kind before size", x.rack(0, -1, -1), -2);
    due.is("27 room", x.rack(0, 0, 10), -6);
    due.is("27 room far", x.rack(0, 0, Integer.MAX_VALUE), -6);
    due.is("27 size", x.rack(0, 0, -1), -14);
    due.is("27 size far", x.rack(0, 0, Integer.MIN_VALUE), -14);
    due.refusals("27", x, 3, 4, 0, 0, 2);
    due.is("27 refused changes nothing", x.racked(0, 8, 0), -9);
    due.is("27 refused changes no kind", x.racks(0, 8, 2), 1);
  }

  private static void racks() {
    CutInCopies x = withTriangles();
    due.is("28 missing", x.racks(1, 0, 0), -11);
    due.is("28 missing, nothing", x.racks(1, 0, -1), -11);
    x.rack(1, 1, 3);
    due.is("28 laid", x.racks(1, 2, 4), 1);
    due.is("28 lies there", x.racked(1, 2, 0), 4);
    due.is("28 not beside", x.racked(1, 1, 0), -9);
    due.is("28 nothing", x.racks(1, 2, -1), 1);
    due.is("28 nothing there", x.racked(1, 2, 0), -9);
    due.is("28 no rack", x.racks(3, 0, 0), -1);
    due.is("28 rack below", x.racks(-1, 0, 0), -1);
    due.is("28 no triangle", x.racks(1, 0, 6), -1);
    due.is("28 triangle below", x.racks(1, 0, -2), -1);
    due.is("28 triangle before missing", x.racks(2, 0, 6), -1);
    due.is("28 triangle before place", x.racks(1, 3, 6), -1);
    due.is("28 missing before place", x.racks(2, 99, 0), -11);
    due.is("28 place", x.racks(1, 3, 1), -13);
    due.is("28 place below", x.racks(1, -1, 1), -13);
    due.is("28 place for nothing", x.racks(1, 3, -1), -13);
    due.is("28 place before kind", x.racks(1, 3, 0), -13);
    due.is("28 kind", x.racks(1, 0, 0), -16);
    due.is("28 kind laid nothing", x.racked(1, 0, 0), -9);
    due.refusals("28", x, 6, 0, 0, 0, 0);
  }

  private static void kinds() {
    for (int made = 0; made < 6; made++) {
      CutInCopies x = withTriangles();
      x.rack(0, made, 6);
      for (int kind = 0; kind < 6; kind++) {
        boolean under = kind == made || KIND_ABOVE[kind] == made || made == 0;
        due.is("28 kind " + kind + " in " + made, x.racks(0, kind, kind), under ? 1 : -16);
        due.is("29 kind " + kind + " in " + made, x.racked(0, kind, 0), under ? kind : -9);
      }
    }
  }

  private static void racked() {
    CutInCopies x = withTriangles();
    int[] valuations = {99, 98, 100, 99, 97, 199};
    due.is("29 missing", x.racked(0, 0, 0), -11);
    x.rack(0, 0, 7);
    for (int kind = 0; kind < 6; kind++) {
      x.racks(0, kind, kind);
      due.is("29 kind", x.racked(0, kind, 0), kind);
      due.is("29 valuation", x.racked(0, kind, 1), valuations[kind]);
    }
    due.is("29 nothing", x.racked(0, 6, 0), -9);
    due.is("29 no valuation of nothing", x.racked(0, 6, 1), -9);
    due.is("29 no rack", x.racked(3, 0, 0), -1);
    due.is("29 rack below", x.racked(-1, 0, 0), -1);
    due.is("29 rack before what", x.racked(3, 0, 2), -1);
    due.is("29 what", x.racked(0, 0, 2), -2);
    due.is("29 what below", x.racked(0, 0, -1), -2);
    due.is("29 what before missing", x.racked(1, 0, 2), -2);
    due.is("29 what before place", x.racked(0, 7, 2), -2);
    due.is("29 missing before place", x.racked(1, -1, 0), -11);
    due.is("29 place", x.racked(0, 7, 0), -13);
    due.is("29 place below", x.racked(0, -1, 1), -13);
    due.refusals("29", x, 3, 4, 0, 0, 0);
  }

  private static void racksKeepWhatWasLaid() {
    CutInCopies x = new CutInCopies();
    x.image();
    x.point(1, 1);
    x.point(101, 1);
    x.point(1, 101);
    x.triangle(4, 0, 1, 2);
    x.rack(0, 1, 2);
    x.racks(0, 1, 0);
    due.is("36 on", x.on(), 0);
    due.is("28 no such triangle now", x.racks(0, 0, 0), -1);
    due.is("29 kind as it was laid", x.racked(0, 1, 0), 4);
    due.is("29 valuation as it was laid", x.racked(0, 1, 1), 97);
    x.point(1, 1);
    x.point(401, 1);
    x.point(1, 401);
    x.triangle(0, 0, 1, 2);
    due.is("29 kind of the old one", x.racked(0, 1, 0), 4);
    due.is("29 valuation of the old one", x.racked(0, 1, 1), 97);
    due.is("28 the new one is of another kind", x.racks(0, 1, 0), -16);
    due.is("29 old one stays", x.racked(0, 1, 0), 4);
  }

  private static void like() {
    CutInCopies x = withTriangles();
    due.is("30 other missing", x.like(0, 1), -11);
    due.is("30 itself missing", x.like(2, 2), -11);
    x.rack(1, 3, 4);
    x.racks(1, 0, 3);
    x.racks(1, 3, 5);
    due.is("30 size", x.like(0, 1), 4);
    due.is("30 first", x.racked(0, 0, 0), 3);
    due.is("30 last", x.racked(0, 3, 0), 5);
    due.is("30 empty", x.racked(0, 1, 0), -9);
    due.is("30 end", x.racked(0, 4, 0), -13);
    due.is("30 kind", x.racks(0, 1, 0), -16);
    x.racks(1, 0, -1);
    due.is("30 as it was then", x.racked(0, 0, 0), 3);
    x.racks(0, 3, -1);
    due.is("30 the other stays", x.racked(1, 3, 0), 5);
    x.rack(1, 0, 1);
    due.is("30 keeps its size", x.racked(0, 3, 0), -9);
    x.rack(2, 2, 0);
    due.is("30 of none", x.like(0, 2), 0);
    due.is("30 of none has no place", x.racked(0, 0, 0), -13);
    due.is("30 itself", x.like(1, 1), 1);
    due.is("30 no rack", x.like(3, 0), -1);
    due.is("30 rack below", x.like(-1, 0), -1);
    due.is("30 no other", x.like(0, 3), -1);
    due.is("30 other below", x.like(0, -1), -1);
    CutInCopies y = new CutInCopies();
    y.rack(0, 0, 5);
    due.is("30 rack before missing", y.like(3, 1), -1);
    due.is("30 missing leaves it", y.like(0, 1), -11);
    due.is("30 is as before", y.racked(0, 4, 0), -9);
    due.refusals("30", x, 4, 0, 0, 0, 0);
    due.refusals("30", y, 1, 0, 0, 0, 0);
  }

  private static void list() {
    CutInCopies x = new CutInCopies();
    due.is("31 made", x.list(0, 40), 1);
    for (int i = 0; i < 40; i += 13) {
      due.is("31 all 0", x.look(0, i), 0);
    }
    x.put(0, 0, 5);
    x.put(0, 39, 7);
    due.is("31 anew", x.list(0, 40), 1);
    due.is("31 anew all 0 from the first", x.look(0, 0), 0);
    due.is("31 anew all 0", x.look(0, 39), 0);
    due.is("31 of none", x.list(2, 0), 1);
    due.is("31 of none has no place", x.put(2, 0, 1), -13);
    due.is("31 other missing", x.put(1, 0, 1), -11);
    due.is("31 no list", x.list(3, 1), -1);
    due.is("31 list below", x.list(-1, 1), -1);
    due.is("31 list before room", x.list(3, 41), -1);
    due.is("31 list before size", x.list(-1, -1), -1);
    due.is("31 room", x.list(0, 41), -6);
    due.is("31 room far", x.list(0, Integer.MAX_VALUE), -6);
    due.is("31 size", x.list(0, -1), -14);
    due.is("31 size far", x.list(0, Integer.MIN_VALUE), -14);
    due.is("31 refused makes nothing", x.list(1, -1), -14);
    due.is("31 still missing", x.judge(1), -11);
    due.is("31 still there", x.look(0, 39), 0);
    due.refusals("31", x, 4, 0, 0, 0, 2);
  }

  private static void put() {
    CutInCopies x = new CutInCopies();
    due.is("32 missing", x.put(0, 0, 5), -11);
    x.list(0, 3);
    x.list(1, 3);
    due.is("32 put", x.put(0, 2, Integer.MIN_VALUE), 1);
    due.is("32 is there", x.look(0, 2), Integer.MIN_VALUE);
    due.is("32 not beside", x.look(0, 1), 0);
    due.is("32 not in another", x.look(1, 2), 0);
    due.is("32 no list", x.put(3, 0, 0), -1);
    due.is("32 list below", x.put(-1, 0, 0), -1);
    due.is("32 missing before place", x.put(2, -1, 0), -11);
    due.is("32 place", x.put(0, 3, 0), -13);
    due.is("32 place below", x.put(0, -1, 0), -13);
    due.refusals("32", x, 2, 0, 0, 0, 0);
  }

  private static void look() {
    CutInCopies x = new CutInCopies();
    due.is("33 missing", x.look(1, 0), Due.FAR + 11);
    x.list(1, 2);
    x.put(1, 0, -5);
    x.put(1, 1, Integer.MAX_VALUE);
    due.is("33 below 0", x.look(1, 0), -5);
    due.is("33 greatest", x.look(1, 1), Integer.MAX_VALUE);
    due.is("33 no list", x.look(3, 0), Due.FAR + 1);
    due.is("33 list below", x.look(-1, 0), Due.FAR + 1);
    due.is("33 missing before place", x.look(0, 9), Due.FAR + 11);
    due.is("33 place", x.look(1, 2), Due.FAR + 13);
    due.is("33 place below", x.look(1, Integer.MIN_VALUE), Due.FAR + 13);
    due.refusals("33", x, 2, 0, 0, 0, 0);
  }

  private static void judge() {
    CutInCopies x = new CutInCopies();
    due.is("34 missing", x.judge(0), -11);
    x.list(0, 0);
    due.is("34 of none", x.judge(0), -9);
    // The ways of a new object's pieces: 0, 0, 2, 1, 0.
    x.list(0, 2);
    due.is("34 tells fewer", x.judge(0), -9);
    x.list(0, 5);
    due.is("34 third is otherwise", x.judge(0), 2);
    x.put(0, 2, 2);
    due.is("34 fourth is otherwise", x.judge(0), 3);
    x.put(0, 3, 1);
    due.is("34 all right", x.judge(0), -9);
    x.put(0, 4, 3);
    due.is("34 last is otherwise", x.judge(0), 4);
    x.put(0, 0, -1);
    due.is("34 first is otherwise", x.judge(0), 0);
    x.list(1, 6);
    x.put(1, 2, 2);
    x.put(1, 3, 1);
    due.is("34 piece that isn't there", x.judge(1), 5);
    x.board(1, 0, 0);
    due.is("34 of the board as it is", x.judge(1), 1);
    x.board(0, 0, 0);
    due.is("34 no piece at all", x.judge(1), 0);
    due.is("34 no list", x.judge(3), -1);
    due.is("34 list below", x.judge(-1), -1);
    due.refusals("34", x, 2, 0, 0, 0, 0);
  }
}
