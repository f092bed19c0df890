import java.util.HashMap;
import java.util.Map;
import java.util.function.Supplier;

/**
 * Each refusal of each call: the last number that is taken beside the first that is refused, which of two
 * refusals that fit at once is told, what is counted, and that nothing else changes.
 */
public final class RefusalsTest {
  private static final String LEAST = String.valueOf(Integer.MIN_VALUE);
  private static final String GREATEST = String.valueOf(Integer.MAX_VALUE);
  private static final Due due = new Due();
  private static final Map<String, String> UNTOUCHED = new HashMap<>();

  /** A kind of object on which calls are refused. */
  private enum On {
    NEW(CutInCopies::new), BARE(State::bare), SOME(State::some), FULL(State::full);

    final Supplier<CutInCopies> made;

    On(Supplier<CutInCopies> made) {
      this.made = made;
    }
  }

  public static void main(String[] args) {
    letters();
    boards();
    cells();
    piecesOfBoards();
    rules();
    behindCuts();
    addresses();
    meetings();
    lots();
    points();
    triangles();
    sets();
    racks();
    racksByPlaces();
    lists();
    images();
    answersThatAreNoRefusals();
    faults();
    often();
    due.end();
  }

  /** The refusal is due; those of -1 .. -6 are counted once, others not; nothing else is seen to change. */
  private static void refused(On on, int refusal, String... calls) {
    for (String call : calls) {
      CutInCopies x = on.made.get();
      int[] often = State.refusals(x);
      long want = Calls.isFar(call) ? Due.FAR - refusal : refusal;
      due.is(on + ": " + call, Calls.ask(x, call), want);
      if (refusal >= -6) {
        often[-refusal]++;
      }
      countedAs(on, call, x, often);
      unchanged(on, call);
    }
  }

  /** Answers below 0 that aren't refusals: nothing changes and nothing is counted. */
  private static void answered(On on, long want, String... calls) {
    for (String call : calls) {
      CutInCopies x = on.made.get();
      int[] often = State.refusals(x);
      due.is(on + ": " + call, Calls.ask(x, call), want);
      countedAs(on, call, x, often);
      unchanged(on, call);
    }
  }

  private static void countedAs(On on, String call, CutInCopies x, int[] often) {
    int[] now = State.refusals(x);
    for (int i = 1; i <= 6; i++) {
      due.is(on + ": refusals " + -i + " behind " + call, now[i], often[i]);
    }
  }

  private static void unchanged(On on, String call) {
    String untouched = UNTOUCHED.computeIfAbsent(on.name(), name -> State.behind(on.made, x -> { }));
    due.same(on + ": unchanged by " + call, State.behind(on.made, x -> Calls.ask(x, call)), untouched);
  }

  /** The call is taken: no refusal is counted. */
  private static void taken(On on, String call, long want) {
    CutInCopies x = on.made.get();
    int[] often = State.refusals(x);
    due.is(on + ": " + call, Calls.ask(x, call), want);
    countedAs(on, call, x, often);
  }

  private static void letters() {
    taken(On.NEW, "letter(0)", 1);
    taken(On.NEW, "letter(255)", 1);
    taken(On.SOME, "letter(255)", 24);
    refused(On.SOME, -4, "letter(-1)", "letter(" + LEAST + ")");
    refused(On.SOME, -6, "letter(256)", "letter(" + GREATEST + ")");
    refused(On.FULL, -6, "letter(0)", "letter(98)", "letter(255)");
    // Below and no room at once; above and no room at once is one refusal.
    refused(On.FULL, -4, "letter(-1)");
    refused(On.FULL, -6, "letter(256)");
    Run run = new Run(due, "2 the last letter");
    run.type(State.FULL_TEXT.substring(0, 71)).is("count(3)", 71);
    run.refused("letter(256)", -6).refused("letter(-1)", -4).is("count(3)", 71);
    run.is("letter(255)", 72).refused("letter(59)", -6).is("count(3)", 72);
  }

  private static void boards() {
    int[] pieces = {0, 1, 5, 21, 85};
    for (int n = 0; n <= 4; n++) {
      int side = 1 << n;
      int last = side - 1;
      taken(On.SOME, "board(" + n + ", 0, 0)", pieces[n]);
      taken(On.SOME, "board(" + n + ", " + last + ", " + last + ")", pieces[n]);
      refused(On.SOME, -1, "board(" + n + ", " + side + ", 0)", "board(" + n + ", 0, " + side + ")");
      refused(On.SOME, -1, "board(" + n + ", -1, 0)", "board(" + n + ", 0, -1)");
    }
    refused(On.SOME, -1, "board(4, " + LEAST + ", 0)", "board(4, 0, " + GREATEST + ")");
    refused(On.SOME, -4, "board(-1, 0, 0)", "board(" + LEAST + ", 0, 0)", "board(-32, 0, 0)");
    refused(On.SOME, -6, "board(5, 0, 0)", "board(" + GREATEST + ", 0, 0)", "board(32, 0, 0)");
    refused(On.SOME, -4, "board(-1, -1, 0)", "board(-1, 0, 16)");
    refused(On.SOME, -6, "board(5, -1, 0)", "board(5, 0, 32)");
  }

  private static void cells() {
    for (int n = 0; n <= 4; n++) {
      int side = 1 << n;
      int last = side - 1;
      Run run = new Run(due, "cells of " + n).with("board(" + n + ", " + last + ", " + last + ")");
      run.is("piece(" + last + ", " + last + ")", -9).refusals(0, 0, 0, 0, 0);
      run.refused("piece(" + side + ", 0)", -1).refused("piece(0, " + side + ")", -1);
      run.refused("piece(-1, 0)", -1).refused("piece(0, -1)", -1);
      run.is("within(0, " + last + ", 0, " + last + ")", ((1 << 2 * n) - 1) / 3);
      run.refused("within(-1, 0, 0, 0)", -1).refused("within(0, " + side + ", 0, 0)", -1);
      run.refused("within(0, 0, -1, 0)", -1).refused("within(0, 0, 0, " + side + ")", -1);
      run.refused("within(" + side + ", 0, 0, 0)", -1).refused("within(0, -1, 0, 0)", -1);
      run.refused("within(0, 0, " + side + ", 0)", -1).refused("within(0, 0, 0, -1)", -1);
      run.refusals(12, 0, 0, 0, 0);
    }
    refused(On.SOME, -1, "piece(4, 0)", "piece(0, 4)", "piece(-1, 4)", "piece(" + LEAST + ", " + GREATEST + ")");
    refused(On.SOME, -1, "within(0, 4, 0, 3)", "within(0, 3, 4, 0)", "within(4, -1, 4, -1)");
    taken(On.SOME, "within(3, 0, 0, 3)", 0);
    taken(On.SOME, "within(0, 3, 3, 0)", 0);
    taken(On.SOME, "within(3, 0, 3, 0)", 0);
  }

  private static void piecesOfBoards() {
    taken(On.SOME, "of(4, 0)", 0);
    taken(On.SOME, "of(4, 4)", 3);
    refused(On.SOME, -1, "of(5, 0)", "of(-1, 0)", "of(" + LEAST + ", 0)", "of(" + GREATEST + ", 0)");
    refused(On.SOME, -2, "of(0, 5)", "of(4, -1)", "of(0, " + LEAST + ")", "of(0, " + GREATEST + ")");
    refused(On.SOME, -1, "of(5, 5)", "of(-1, -1)");
    int[] last = {-1, 0, 4, 20, 84};
    for (int n = 0; n <= 4; n++) {
      Run run = new Run(due, "6 pieces of " + n).with("board(" + n + ", 0, 0)");
      run.refused("of(" + (last[n] + 1) + ", 0)", -1).refusals(1, 0, 0, 0, 0);
      if (n > 0) {
        run.is("of(" + last[n] + ", 1)", 2).refusals(1, 0, 0, 0, 0);
      }
    }
    for (int what : new int[] {0, 1, 10, 11, 12, 13}) {
      taken(On.NEW, "pieces(" + what + ")", new int[] {5, 4, 3, 1, 1, 0}[what < 10 ? what : what - 8]);
    }
    refused(On.SOME, -2, "pieces(-1)", "pieces(2)", "pieces(9)", "pieces(14)", "pieces(" + LEAST + ")",
        "pieces(" + GREATEST + ")");
    taken(On.NEW, "odds(0, 0)", 3);
    taken(On.NEW, "odds(3, 1)", 1);
    refused(On.SOME, -2, "odds(-1, 0)", "odds(4, 0)", "odds(0, -1)", "odds(3, 2)", "odds(4, 2)",
        "odds(" + LEAST + ", " + GREATEST + ")");
  }

  private static void rules() {
    taken(On.NEW, "rule(0, 0, 3)", 0);
    taken(On.NEW, "rule(3, 3, 0)", 3);
    refused(On.SOME, -2, "rule(-1, 0, 0)", "rule(4, 0, 0)", "rule(0, -1, 0)", "rule(0, 4, 0)");
    refused(On.SOME, -2, "rule(0, 0, -1)", "rule(0, 0, 4)", "rule(4, 4, 4)");
    refused(On.SOME, -2, "rule(" + GREATEST + ", 0, 0)", "rule(0, " + LEAST + ", 0)", "rule(0, 0, " + GREATEST + ")");
    taken(On.NEW, "steady(0)", 15);
    taken(On.NEW, "steady(3)", 15);
    refused(On.SOME, -2, "steady(-1)", "steady(4)", "steady(" + LEAST + ")", "steady(" + GREATEST + ")");
    taken(On.NEW, "falls(0)", -9);
    taken(On.NEW, "falls(3)", -9);
    refused(On.SOME, -2, "falls(-1)", "falls(4)", "falls(" + LEAST + ")", "falls(" + GREATEST + ")");
  }

  private static void behindCuts() {
    taken(On.NEW, "behind(3, 0, 3)", 1);
    taken(On.NEW, "behind(0, 0, 3)", 0);
    taken(On.NEW, "behind(1, 15, 0)", 268435456);
    refused(On.SOME, -4, "behind(0, -1, 0)", "behind(3, " + LEAST + ", 3)");
    refused(On.SOME, -6, "behind(0, 16, 0)", "behind(3, " + GREATEST + ", 3)");
    refused(On.SOME, -2, "behind(-1, 0, 0)", "behind(4, 15, 0)", "behind(0, 0, -1)", "behind(0, 15, 4)");
    refused(On.SOME, -2, "behind(4, -1, 0)", "behind(-1, 16, 0)", "behind(0, -1, 4)", "behind(0, 16, -1)");
  }

  private static void addresses() {
    for (int n = 0; n <= 15; n++) {
      int first = 1 << 2 * n;
      // By the rule as it is at first, n digits of part 3 keep the way.
      taken(On.NEW, "address(2, " + (first - 1) + ", " + n + ")", 2);
      refused(On.SOME, -6, "address(2, " + first + ", " + n + ")");
    }
    taken(On.NEW, "address(3, 0, 0)", 3);
    taken(On.NEW, "address(3, 0, 15)", 3);
    refused(On.SOME, -2, "address(-1, 0, 0)", "address(4, 0, 15)");
    refused(On.SOME, -4, "address(0, -1, 15)", "address(0, " + LEAST + ", 15)");
    refused(On.SOME, -4, "address(0, 0, -1)", "address(0, 0, " + LEAST + ")");
    refused(On.SOME, -6, "address(0, 0, 16)", "address(0, 0, " + GREATEST + ")", "address(0, " + GREATEST + ", 15)");
    refused(On.SOME, -2, "address(4, -1, 0)", "address(4, 0, -1)", "address(-1, 0, 16)", "address(4, 1, 0)");
    refused(On.SOME, -4, "address(0, -1, 16)", "address(0, 1, -1)", "address(0, -1, -1)");
    // An address of more digits than 16 hold, and digits told above 15: one refusal.
    refused(On.SOME, -6, "address(0, " + GREATEST + ", 16)", "address(0, 1, 16)");
  }

  private static void meetings() {
    taken(On.NEW, "meet(0, 3, 0)", -9);
    taken(On.NEW, "meet(3, 0, 1)", -9);
    taken(On.NEW, "meet(3, 3, 1)", 0);
    refused(On.SOME, -2, "meet(-1, 0, 0)", "meet(4, 0, 0)", "meet(0, -1, 1)", "meet(0, 4, 1)");
    refused(On.SOME, -2, "meet(0, 0, -1)", "meet(3, 3, 2)", "meet(4, 4, 2)", "meet(4, 4, 0)");
  }

  private static void lots() {
    Run run = new Run(due, "16 how many lots");
    for (int i = 0; i < 16; i++) {
      run.with("rule(" + i / 4 + ", " + i % 4 + ", 0)");
    }
    run.is("lots(0, 1, 0, 0)", 1).is("lots(3, 50, 0, 0)", 50).is("lots(3, 50, 0, 1)", 0);
    run.refusals(0, 0, 0, 0, 0);
    refused(On.SOME, -2, "lots(-1, 1, 0, 0)", "lots(4, 50, 0, 0)", "lots(0, 1, 0, -1)", "lots(0, 50, 0, 2)");
    refused(On.SOME, -4, "lots(0, 0, 0, 0)", "lots(3, -1, 0, 1)", "lots(0, " + LEAST + ", 0, 0)");
    refused(On.SOME, -6, "lots(0, 51, 0, 0)", "lots(3, " + GREATEST + ", 0, 1)");
    refused(On.SOME, -2, "lots(4, 0, 0, 0)", "lots(4, 51, 0, 0)", "lots(0, 0, 0, 2)", "lots(0, 51, 0, -1)");
  }

  private static void points() {
    for (String told : new String[] {"1", "99", "101", "9901", "9999"}) {
      taken(On.SOME, "point(" + told + ", 101)", 4);
      taken(On.SOME, "point(101, " + told + ")", 4);
    }
    for (String told : new String[] {"-1", "-101", LEAST, "0", "100", "9900", "10000", "20000"}) {
      refused(On.SOME, -4, "point(" + told + ", 101)", "point(101, " + told + ")");
    }
    for (String told : new String[] {"10001", "10101", GREATEST}) {
      refused(On.SOME, -6, "point(" + told + ", 101)", "point(101, " + told + ")");
    }
    refused(On.SOME, -4, "point(-1, 10001)", "point(10001, -1)", "point(100, 10001)", "point(10001, 0)");
    refused(On.FULL, -6, "point(1, 1)", "point(9999, 9999)", "point(10001, 101)");
    refused(On.FULL, -4, "point(-1, 101)", "point(101, 0)", "point(10001, 100)");
    Run run = new Run(due, "17 the tenth point");
    for (int i = 0; i < 10; i++) {
      run.is("point(1, 1)", i);
    }
    run.refused("point(1, 1)", -6).is("count(1)", 10).refusals(0, 0, 0, 0, 1);
    taken(On.SOME, "colour(3, 0)", 1);
    taken(On.SOME, "colour(0, 2)", 100);
    refused(On.NEW, -1, "colour(0, 0)");
    refused(On.SOME, -1, "colour(4, 0)", "colour(-1, 0)", "colour(" + LEAST + ", 0)", "colour(" + GREATEST + ", 2)");
    refused(On.FULL, -1, "colour(10, 0)");
    refused(On.SOME, -2, "colour(0, -1)", "colour(3, 3)");
    refused(On.SOME, -1, "colour(4, 3)", "colour(-1, -1)");
  }

  private static void triangles() {
    taken(On.SOME, "triangle(0, 1, 2, 3)", 3);
    taken(On.SOME, "triangle(5, 3, 2, 0)", 3);
    refused(On.SOME, -2, "triangle(-1, 0, 1, 2)", "triangle(6, 0, 1, 2)", "triangle(" + LEAST + ", 0, 1, 2)");
    refused(On.SOME, -1, "triangle(0, 4, 1, 2)", "triangle(0, 0, 4, 2)", "triangle(0, 0, 1, 4)");
    refused(On.SOME, -1, "triangle(0, -1, 1, 2)", "triangle(0, 0, -1, 2)", "triangle(0, 0, 1, -1)");
    refused(On.SOME, -1, "triangle(0, 0, 0, 2)", "triangle(0, 0, 1, 0)", "triangle(0, 1, 2, 2)");
    refused(On.SOME, -1, "triangle(0, 1, 1, 1)", "triangle(5, 3, 3, 3)");
    refused(On.NEW, -1, "triangle(0, 0, 1, 2)");
    refused(On.SOME, -2, "triangle(6, 0, 0, 2)", "triangle(-1, 0, 1, 9)");
    refused(On.FULL, -6, "triangle(0, 0, 1, 2)", "triangle(5, 9, 8, 7)");
    refused(On.FULL, -2, "triangle(6, 0, 1, 2)", "triangle(-1, 0, 0, 10)");
    refused(On.FULL, -1, "triangle(0, 0, 1, 10)", "triangle(0, 0, 1, 1)");
    Run run = new Run(due, "19 the tenth triangle").with("point(1, 1)", "point(1, 1)", "point(1, 1)");
    for (int i = 0; i < 10; i++) {
      run.is("triangle(5, 0, 1, 2)", i);
    }
    run.refused("triangle(5, 0, 1, 2)", -6).is("count(2)", 10).refusals(0, 0, 0, 0, 1);
    taken(On.SOME, "tri(2, 0)", 4);
    taken(On.SOME, "tri(0, 6)", 98);
    refused(On.NEW, -1, "tri(0, 0)", "area(0, 0)", "bits(0)");
    refused(On.FULL, -1, "tri(10, 0)", "area(10, 0)", "bits(10)");
    refused(On.SOME, -1, "tri(3, 0)", "tri(-1, 0)", "area(3, 0)", "area(-1, 1)", "bits(3)", "bits(-1)");
    refused(On.SOME, -1, "tri(" + LEAST + ", 0)", "area(" + GREATEST + ", 0)", "bits(" + LEAST + ")");
    refused(On.SOME, -2, "tri(0, -1)", "tri(2, 7)", "area(0, -1)", "area(2, 2)");
    refused(On.SOME, -1, "tri(3, 7)", "tri(-1, -1)", "area(3, 2)", "area(-1, -1)");
  }

  private static void sets() {
    taken(On.NEW, "sum(0, 0)", 0);
    taken(On.NEW, "even(0, 0)", 0);
    taken(On.NEW, "bitsOf(0, 0)", 0);
    taken(On.NEW, "longBits(0)", 0);
    taken(On.SOME, "even(7, 1)", 0);
    taken(On.FULL, "even(1023, 2)", 0);
    refused(On.NEW, -1, "sum(1, 0)", "even(1, 0)", "bitsOf(1, 0)", "longBits(1)");
    refused(On.SOME, -1, "sum(8, 0)", "even(8, 0)", "bitsOf(8, 0)", "longBits(8)");
    refused(On.SOME, -1, "sum(9, 1)", "even(15, 2)", "bitsOf(12, 1)", "longBits(10)");
    refused(On.SOME, -1, "sum(-1, 0)", "even(-1, 0)", "bitsOf(-1, 0)", "longBits(-1)");
    refused(On.SOME, -1, "sum(" + LEAST + ", 0)", "even(" + LEAST + ", 0)", "bitsOf(" + LEAST + ", 0)",
        "longBits(" + LEAST + ")");
    refused(On.FULL, -1, "sum(1024, 0)", "even(1024, 0)", "bitsOf(1024, 0)", "longBits(1024)");
    refused(On.FULL, -1, "even(" + GREATEST + ", 0)", "longBits(" + GREATEST + ")");
    refused(On.SOME, -2, "sum(7, 2)", "sum(0, -1)", "even(7, 3)", "even(0, -1)", "bitsOf(7, 2)", "bitsOf(0, -1)");
    refused(On.SOME, -1, "sum(8, 2)", "sum(-1, -1)", "even(8, 3)", "even(-1, -1)", "bitsOf(8, 2)", "bitsOf(-1, -1)");
    // All of a full object's areas together have too great a number below the line.
    refused(On.FULL, -3, "sum(1023, 0)", "sum(1023, 1)");
    refused(On.FULL, -2, "sum(1023, 2)", "sum(1023, -1)");
    refused(On.FULL, -1, "sum(2047, 0)", "sum(2047, 2)");
  }

  private static void racks() {
    taken(On.SOME, "rack(0, 0, 0)", 1);
    taken(On.SOME, "rack(2, 5, 9)", 1);
    refused(On.SOME, -1, "rack(-1, 0, 0)", "rack(3, 0, 9)");
    refused(On.SOME, -1, "rack(" + LEAST + ", 0, 0)", "rack(" + GREATEST + ", 0, 0)");
    refused(On.SOME, -2, "rack(0, -1, 0)", "rack(0, 6, 9)");
    refused(On.SOME, -6, "rack(0, 0, 10)", "rack(1, 5, " + GREATEST + ")");
    refused(On.SOME, -14, "rack(0, 0, -1)", "rack(1, 5, " + LEAST + ")");
    refused(On.SOME, -1, "rack(3, 6, 0)", "rack(-1, 0, 10)", "rack(3, 0, -1)", "rack(3, 6, 10)");
    refused(On.SOME, -2, "rack(0, 6, 10)", "rack(0, -1, -1)");
    refused(On.NEW, -14, "rack(0, 0, -1)");
    refused(On.NEW, -6, "rack(0, 0, 10)");
    taken(On.SOME, "like(1, 0)", 3);
    taken(On.SOME, "like(0, 2)", 0);
    taken(On.FULL, "like(0, 2)", 9);
    refused(On.SOME, -1, "like(-1, 0)", "like(3, 0)", "like(0, -1)", "like(0, 3)");
    refused(On.SOME, -1, "like(" + LEAST + ", 0)", "like(0, " + GREATEST + ")");
    refused(On.SOME, -11, "like(0, 1)", "like(2, 1)", "like(1, 1)");
    refused(On.SOME, -1, "like(3, 1)", "like(-1, 1)", "like(1, 3)");
    refused(On.NEW, -11, "like(0, 1)", "like(2, 2)");
  }

  private static void racksByPlaces() {
    taken(On.SOME, "racks(0, 0, -1)", 1);
    taken(On.SOME, "racks(0, 2, 2)", 1);
    taken(On.FULL, "racks(0, 8, 9)", 1);
    refused(On.SOME, -1, "racks(-1, 0, 0)", "racks(3, 0, 0)", "racks(0, 0, 3)", "racks(0, 0, -2)");
    refused(On.SOME, -1, "racks(3, 0, -1)", "racks(0, 0, " + LEAST + ")", "racks(0, 0, " + GREATEST + ")");
    refused(On.SOME, -11, "racks(1, 0, 0)", "racks(1, 0, -1)");
    refused(On.SOME, -13, "racks(0, 3, 0)", "racks(0, -1, -1)", "racks(2, 0, -1)", "racks(0, " + LEAST + ", 0)");
    refused(On.FULL, -13, "racks(0, 9, 0)");
    refused(On.SOME, -16, "racks(0, 0, 1)", "racks(0, 2, 1)");
    refused(On.SOME, -1, "racks(1, 0, 3)", "racks(0, 3, 3)", "racks(3, 9, 1)", "racks(0, -1, -2)");
    refused(On.SOME, -11, "racks(1, 9, 0)", "racks(1, -1, 1)");
    refused(On.SOME, -13, "racks(0, 3, 1)", "racks(0, -1, 1)");
    taken(On.SOME, "racked(0, 1, 0)", 1);
    taken(On.SOME, "racked(0, 2, 0)", 4);
    refused(On.SOME, -1, "racked(-1, 0, 0)", "racked(3, 0, 1)");
    refused(On.SOME, -2, "racked(0, 0, -1)", "racked(0, 2, 2)", "racked(0, 1, 2)");
    refused(On.SOME, -11, "racked(1, 0, 0)", "racked(1, 0, 1)");
    refused(On.SOME, -13, "racked(0, 3, 0)", "racked(0, -1, 1)", "racked(2, 0, 0)", "racked(0, " + GREATEST + ", 0)");
    refused(On.SOME, -1, "racked(3, 0, 2)", "racked(-1, 9, 0)");
    refused(On.SOME, -2, "racked(1, 0, 2)", "racked(0, 3, -1)", "racked(1, 9, 2)");
    refused(On.SOME, -11, "racked(1, 3, 0)", "racked(1, -1, 1)");
  }

  private static void lists() {
    taken(On.SOME, "list(0, 0)", 1);
    taken(On.SOME, "list(2, 40)", 1);
    refused(On.SOME, -1, "list(-1, 0)", "list(3, 40)", "list(3, 41)", "list(-1, -1)");
    refused(On.SOME, -6, "list(0, 41)", "list(1, " + GREATEST + ")");
    refused(On.SOME, -14, "list(0, -1)", "list(1, " + LEAST + ")");
    taken(On.SOME, "put(0, 2, " + LEAST + ")", 1);
    taken(On.FULL, "put(2, 39, " + GREATEST + ")", 1);
    taken(On.SOME, "look(0, 0)", 7);
    taken(On.SOME, "look(0, 2)", -7);
    taken(On.FULL, "look(2, 39)", 12);
    refused(On.SOME, -1, "put(-1, 0, 0)", "put(3, 0, 0)", "look(-1, 0)", "look(3, 0)", "judge(-1)", "judge(3)");
    refused(On.SOME, -11, "put(1, 0, 0)", "look(1, 0)", "judge(1)");
    refused(On.SOME, -13, "put(0, 3, 5)", "put(0, -1, 5)", "put(2, 0, 5)", "look(0, 3)", "look(0, -1)", "look(2, 0)");
    refused(On.FULL, -13, "put(0, 40, 5)", "look(0, 40)", "put(0, " + GREATEST + ", 5)", "look(0, " + LEAST + ")");
    refused(On.SOME, -1, "put(3, 9, 0)", "look(3, -1)");
    refused(On.SOME, -11, "put(1, 9, 0)", "put(1, -1, 0)", "look(1, 9)", "look(1, -1)");
  }

  private static void images() {
    refused(On.NEW, -3, "on()");
    taken(On.SOME, "on()", 3);
    Run run = new Run(due, "36 on behind a refused on").refused("on()", -3);
    run.is("image()", 0).is("on()", 0).refusals(0, 0, 1, 0, 0);
  }

  private static void answersThatAreNoRefusals() {
    answered(On.SOME, -9, "piece(1, 2)", "racked(0, 0, 0)", "racked(0, 0, 1)", "falls(1)");
    answered(On.NEW, -9, "meet(1, 2, 0)", "meet(0, 3, 1)", "falls(0)");
    answered(On.SOME, -9, "judge(2)", "count(-1)", "count(6)", "count(9)", "count(10)", "count(17)");
    answered(On.SOME, -9, "count(" + LEAST + ")", "count(" + GREATEST + ")");
    answered(On.SOME, 0, "count(15)");
  }

  /** Faults are not counted, and change nothing but that the letters are no more. */
  private static void faults() {
    Map<String, Integer> faults = new HashMap<>();
    faults.put("", -1000);
    faults.put("b2000", -1005);
    faults.put("b20000;r00000;x", -1014);
    faults.put("b20000;b50000;", -2007);
    faults.put("r33333;p01010101;t0012;t0011;", -2023);
    String untouched = State.behind(State::bare, x -> { });
    for (Map.Entry<String, Integer> fault : faults.entrySet()) {
      CutInCopies x = State.bare();
      int[] often = State.refusals(x);
      due.is("3 " + fault.getKey(), Due.text(x, fault.getKey()), fault.getValue());
      countedAs(On.BARE, "text of " + fault.getKey(), x, often);
      String seen = State.behind(State::bare, y -> Due.text(y, fault.getKey()));
      due.same("3 unchanged by " + fault.getKey(), seen, untouched);
    }
  }

  /** Refusals are counted up to the last call that an object is used for. */
  private static void often() {
    CutInCopies x = new CutInCopies();
    for (int i = 0; i < 511; i++) {
      x.look(-1, 0);
    }
    due.is("37 count(11) as the last call", x.count(11), 511);
    CutInCopies y = new CutInCopies();
    for (int i = 0; i < 100; i++) {
      y.piece(-1, 0);
      y.pieces(2);
      y.on();
      y.letter(-1);
      y.letter(256);
    }
    due.refusals("37 a hundred of each", y, 100, 100, 100, 100, 100);
  }
}
