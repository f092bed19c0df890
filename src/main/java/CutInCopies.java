/**
 * A board cut in pieces, a rule by which pieces fall in smaller ones, points and triangles with exact
 * areas, racks and lists, texts and an image, as ../shared/DOC.md tells them.
 */
public final class CutInCopies {
  private static final int NOBODY = -1;
  private static final int OTHER = -2;
  private static final int STATE = -3;
  private static final int BELOW = -4;
  private static final int ROOM = -6;
  private static final int NONE = -9;
  private static final int MISSING = -11;
  private static final int NO_PLACE = -13;
  private static final int NO_SIZE = -14;
  private static final int NOT_MADE_FOR = -16;
  private static final int LAST_COUNTED = 6;
  private static final long FAR = 4000000000000000000L;
  private static final int FAULT_OF_LETTER = -1000;
  private static final int FAULT_OF_STATEMENT = -2000;
  private static final int WAYS = 4;
  private static final int ROWS = 3;
  private static final int VALUATION_TOLD_MORE = 100;
  private static final int MOST_LOTS = 50;
  private static final int LARGEST_LETTER = 255;
  private static final int LARGEST_FRACTION = 9999;

  private final Board board;
  private final Rule rule;
  private final Shapes shapes;
  private final Letters letters;
  private final Image image;
  private final Rack[] racks;
  private final Numbers[] lists;
  private final int[] refusals;

  public CutInCopies() {
    board = new Board();
    rule = new Rule();
    shapes = new Shapes();
    letters = new Letters();
    image = new Image();
    racks = new Rack[ROWS];
    lists = new Numbers[ROWS];
    refusals = new int[LAST_COUNTED + 1];
    for (int i = 0; i < ROWS; i++) {
      racks[i] = new Rack();
      lists[i] = new Numbers();
    }
    board.cutAnew(2, 0, 0);
  }

  // ---- the board

  public int letter(int c) {
    if (c < 0) {
      return refuse(BELOW);
    }
    if (c > LARGEST_LETTER || letters.isFull()) {
      return refuse(ROOM);
    }
    letters.append(c);
    return letters.size;
  }

  public int text() {
    int answer = faultOfLetters();
    if (answer == 0) {
      answer = letters.statements;
      for (int i = 0; i < letters.statements; i++) {
        runStatement(letters.begins[i]);
      }
    }
    letters.clear();
    return answer;
  }

  public int board(int n, int x, int y) {
    if (n < 0) {
      return refuse(BELOW);
    }
    if (n > Board.LARGEST) {
      return refuse(ROOM);
    }
    if (!Board.isCell(n, x, y)) {
      return refuse(NOBODY);
    }
    board.cutAnew(n, x, y);
    return board.pieceCount;
  }

  public int piece(int x, int y) {
    if (!board.has(x, y)) {
      return refuse(NOBODY);
    }
    return board.pieceAt(x, y);
  }

  public int of(int piece, int what) {
    if (!board.hasPiece(piece)) {
      return refuse(NOBODY);
    }
    switch (what) {
      case 0:
        return board.wayOf(piece);
      case 1:
        return board.sizeOf(piece);
      case 2:
        return board.cornerX(piece);
      case 3:
        return board.cornerY(piece);
      case 4:
        return board.touching(piece);
      default:
        return refuse(OTHER);
    }
  }

  public int within(int a, int b, int c, int d) {
    if (!board.has(a, c) || !board.has(b, d)) {
      return refuse(NOBODY);
    }
    return board.inWindow(a, b, c, d);
  }

  public int pieces(int what) {
    if (what == 0) {
      return board.pieceCount;
    }
    if (what == 1) {
      return board.atBorder();
    }
    if (what >= 10 && isWay(what - 10)) {
      return board.lyingIn(what - 10);
    }
    return refuse(OTHER);
  }

  public long odds(int way, int part) {
    if (!isWay(way) || !isPartOfFraction(part)) {
      return refuseFar(OTHER);
    }
    return board.likelihood(way).told(part);
  }

  // ---- the rule

  public int rule(int way, int part, int to) {
    if (!isWay(way) || !isWay(part) || !isWay(to)) {
      return refuse(OTHER);
    }
    int before = rule.wayOfPart(way, part);
    rule.become(way, part, to);
    return before;
  }

  public long behind(int way, int n, int to) {
    if (!isWay(way) || !isWay(to)) {
      return refuseFar(OTHER);
    }
    if (n < 0) {
      return refuseFar(BELOW);
    }
    if (n > Rule.MOST_CUTS) {
      return refuseFar(ROOM);
    }
    return rule.lyingBehind(way, n, to);
  }

  public int address(int way, int address, int n) {
    if (!isWay(way)) {
      return refuse(OTHER);
    }
    if (address < 0 || n < 0) {
      return refuse(BELOW);
    }
    if (n > Rule.MOST_CUTS || address >> (2 * n) != 0) {
      return refuse(ROOM);
    }
    return rule.wayAt(way, address, n);
  }

  public int meet(int way, int other, int what) {
    if (!isWay(way) || !isWay(other) || what < 0 || what > 1) {
      return refuse(OTHER);
    }
    return rule.meeting(way, other, what == 1);
  }

  public int steady(int way) {
    if (!isWay(way)) {
      return refuse(OTHER);
    }
    return rule.steadyWays(way);
  }

  public int falls(int way) {
    if (!isWay(way)) {
      return refuse(OTHER);
    }
    return rule.cutsToAlike(way);
  }

  public int lots(int way, int n, int z, int what) {
    if (!isWay(way) || what < 0 || what > 1) {
      return refuse(OTHER);
    }
    if (n < 1) {
      return refuse(BELOW);
    }
    if (n > MOST_LOTS) {
      return refuse(ROOM);
    }
    return rule.drawLots(way, n, z, what == 1);
  }

  // ---- points, triangles

  public int point(int xs, int ys) {
    if (xs < 0 || ys < 0 || xs % 100 == 0 || ys % 100 == 0) {
      return refuse(BELOW);
    }
    if (xs > LARGEST_FRACTION || ys > LARGEST_FRACTION || shapes.pointCount >= Shapes.MOST) {
      return refuse(ROOM);
    }
    shapes.addPoint(xs, ys);
    return shapes.pointCount - 1;
  }

  public int colour(int point, int what) {
    if (!shapes.hasPoint(point)) {
      return refuse(NOBODY);
    }
    Point told = shapes.points[point];
    switch (what) {
      case 0:
        return told.shade(false);
      case 1:
        return told.x.valuation() + VALUATION_TOLD_MORE;
      case 2:
        return told.y.valuation() + VALUATION_TOLD_MORE;
      default:
        return refuse(OTHER);
    }
  }

  public int triangle(int kind, int a, int b, int c) {
    if (!Triangle.isKind(kind)) {
      return refuse(OTHER);
    }
    if (!Shapes.areThree(shapes.pointCount, a, b, c)) {
      return refuse(NOBODY);
    }
    if (shapes.triangleCount >= Shapes.MOST) {
      return refuse(ROOM);
    }
    shapes.addTriangle(kind, a, b, c);
    return shapes.triangleCount - 1;
  }

  public int tri(int triangle, int what) {
    if (!shapes.hasTriangle(triangle)) {
      return refuse(NOBODY);
    }
    Triangle told = shapes.triangles[triangle];
    switch (what) {
      case 0:
        return told.kind;
      case 1:
        return told.first;
      case 2:
        return told.second;
      case 3:
        return told.third;
      case 4:
        return told.colours;
      case 5:
        return told.isRainbow() ? 1 : 0;
      case 6:
        return told.area.valuation() + VALUATION_TOLD_MORE;
      default:
        return refuse(OTHER);
    }
  }

  public long area(int triangle, int part) {
    if (!shapes.hasTriangle(triangle)) {
      return refuseFar(NOBODY);
    }
    if (!isPartOfFraction(part)) {
      return refuseFar(OTHER);
    }
    return shapes.triangles[triangle].area.told(part);
  }

  public long sum(int set, int part) {
    if (!shapes.hasSet(set)) {
      return refuseFar(NOBODY);
    }
    if (!isPartOfFraction(part)) {
      return refuseFar(OTHER);
    }
    Fraction total = shapes.exactSum(set);
    if (total == null) {
      return refuseFar(STATE);
    }
    return total.told(part);
  }

  public int even(int set, int what) {
    if (!shapes.hasSet(set)) {
      return refuse(NOBODY);
    }
    switch (what) {
      case 0:
        return shapes.evenOnes(set);
      case 1:
        return shapes.rainbows(set);
      case 2:
        return shapes.areAlike(set) ? 1 : 0;
      default:
        return refuse(OTHER);
    }
  }

  public int bits(int triangle) {
    if (!shapes.hasTriangle(triangle)) {
      return refuse(NOBODY);
    }
    return Floats.intBits(shapes.triangles[triangle].area.asFloat());
  }

  public int bitsOf(int set, int what) {
    if (!shapes.hasSet(set)) {
      return refuse(NOBODY);
    }
    if (what == 0) {
      return Floats.intBits(shapes.floatSum(set));
    }
    if (what == 1) {
      return (int) (shapes.floatSum(set) * 1000.0f);
    }
    return refuse(OTHER);
  }

  public long longBits(int set) {
    if (!shapes.hasSet(set)) {
      return refuseFar(NOBODY);
    }
    return Floats.longBitsOfDouble(shapes.doubleSum(set));
  }

  // ---- racks, lists

  public int rack(int rack, int kind, int n) {
    if (!isRow(rack)) {
      return refuse(NOBODY);
    }
    if (!Triangle.isKind(kind)) {
      return refuse(OTHER);
    }
    if (n > Rack.MOST) {
      return refuse(ROOM);
    }
    if (n < 0) {
      return NO_SIZE;
    }
    racks[rack].makeFor(kind, n);
    return 1;
  }

  public int racks(int rack, int i, int triangle) {
    boolean nothing = triangle == -1;
    if (!isRow(rack) || !nothing && !shapes.hasTriangle(triangle)) {
      return refuse(NOBODY);
    }
    Rack row = racks[rack];
    if (row.isMissing()) {
      return MISSING;
    }
    if (!row.hasPlace(i)) {
      return NO_PLACE;
    }
    Triangle laid = nothing ? null : shapes.triangles[triangle];
    if (!row.takes(laid)) {
      return NOT_MADE_FOR;
    }
    row.places[i] = laid;
    return 1;
  }

  public int racked(int rack, int i, int what) {
    if (!isRow(rack)) {
      return refuse(NOBODY);
    }
    if (what < 0 || what > 1) {
      return refuse(OTHER);
    }
    Rack row = racks[rack];
    if (row.isMissing()) {
      return MISSING;
    }
    if (!row.hasPlace(i)) {
      return NO_PLACE;
    }
    Triangle laid = row.places[i];
    if (laid == null) {
      return NONE;
    }
    return what == 0 ? laid.kind : laid.area.valuation() + VALUATION_TOLD_MORE;
  }

  public int like(int rack, int other) {
    if (!isRow(rack) || !isRow(other)) {
      return refuse(NOBODY);
    }
    if (racks[other].isMissing()) {
      return MISSING;
    }
    racks[rack].copyFrom(racks[other]);
    return racks[rack].size;
  }

  public int list(int list, int n) {
    if (!isRow(list)) {
      return refuse(NOBODY);
    }
    if (n > Numbers.MOST) {
      return refuse(ROOM);
    }
    if (n < 0) {
      return NO_SIZE;
    }
    lists[list].makeZeros(n);
    return 1;
  }

  public int put(int list, int i, int v) {
    if (!isRow(list)) {
      return refuse(NOBODY);
    }
    Numbers row = lists[list];
    if (row.isMissing()) {
      return MISSING;
    }
    if (!row.hasPlace(i)) {
      return NO_PLACE;
    }
    row.places[i] = v;
    return 1;
  }

  public long look(int list, int i) {
    if (!isRow(list)) {
      return refuseFar(NOBODY);
    }
    Numbers row = lists[list];
    if (row.isMissing()) {
      return FAR - MISSING;
    }
    if (!row.hasPlace(i)) {
      return FAR - NO_PLACE;
    }
    return row.places[i];
  }

  public int judge(int list) {
    if (!isRow(list)) {
      return refuse(NOBODY);
    }
    Numbers row = lists[list];
    if (row.isMissing()) {
      return MISSING;
    }
    for (int i = 0; i < row.size; i++) {
      if (!board.hasPiece(i) || row.places[i] != board.wayOf(i)) {
        return i;
      }
    }
    return NONE;
  }

  // ---- the image

  public int image() {
    image.take(board, rule, shapes);
    return shapes.pointCount;
  }

  public int on() {
    if (!image.taken) {
      return refuse(STATE);
    }
    image.giveBack(board, rule, shapes);
    return shapes.pointCount;
  }

  public int count(int what) {
    if (what >= 11 && what <= 10 + LAST_COUNTED) {
      return refusals[what - 10];
    }
    switch (what) {
      case 0:
        return board.power;
      case 1:
        return shapes.pointCount;
      case 2:
        return shapes.triangleCount;
      case 3:
        return letters.size;
      case 4:
        return board.holeX;
      case 5:
        return board.holeY;
      default:
        return NONE;
    }
  }

  // ---- what the calls share

  private int refuse(int refusal) {
    if (refusal < 0 && refusal >= -LAST_COUNTED) {
      refusals[-refusal]++;
    }
    return refusal;
  }

  private long refuseFar(int refusal) {
    return FAR - refuse(refusal);
  }

  private static boolean isWay(int way) {
    return way >= 0 && way < WAYS;
  }

  private static boolean isPartOfFraction(int part) {
    return part == 0 || part == 1;
  }

  private static boolean isRow(int row) {
    return row >= 0 && row < ROWS;
  }

  // ---- the text

  /** The fault of the letters, or 0: nothing may come before all of it has been looked through. */
  private int faultOfLetters() {
    int wrong = letters.read();
    if (wrong >= 0) {
      return FAULT_OF_LETTER - wrong;
    }
    int points = shapes.pointCount;
    int triangles = shapes.triangleCount;
    for (int i = 0; i < letters.statements; i++) {
      int at = letters.begins[i];
      if (!canBe(at, points, triangles)) {
        return FAULT_OF_STATEMENT - at;
      }
      points += letters.letterAt(at) == 'p' ? 1 : 0;
      triangles += letters.letterAt(at) == 't' ? 1 : 0;
    }
    return 0;
  }

  private boolean canBe(int at, int points, int triangles) {
    switch (letters.letterAt(at)) {
      case 'b':
        return letters.digit(at + 1) <= Board.LARGEST
            && Board.isCell(letters.digit(at + 1), letters.twoDigits(at + 2), letters.twoDigits(at + 4));
      case 'r':
        return areWays(at + 1, WAYS + 1);
      case 'p':
        return letters.twoDigits(at + 3) > 0 && letters.twoDigits(at + 7) > 0 && points < Shapes.MOST;
      default:
        return Triangle.isKind(letters.digit(at + 1))
            && Shapes.areThree(points, letters.digit(at + 2), letters.digit(at + 3), letters.digit(at + 4))
            && triangles < Shapes.MOST;
    }
  }

  private boolean areWays(int at, int digits) {
    for (int i = 0; i < digits; i++) {
      if (!isWay(letters.digit(at + i))) {
        return false;
      }
    }
    return true;
  }

  private void runStatement(int at) {
    switch (letters.letterAt(at)) {
      case 'b':
        board.cutAnew(letters.digit(at + 1), letters.twoDigits(at + 2), letters.twoDigits(at + 4));
        break;
      case 'r':
        for (int part = 0; part < WAYS; part++) {
          rule.become(letters.digit(at + 1), part, letters.digit(at + 2 + part));
        }
        break;
      case 'p':
        shapes.addPoint(letters.fourDigits(at + 1), letters.fourDigits(at + 5));
        break;
      default:
        shapes.addTriangle(
            letters.digit(at + 1), letters.digit(at + 2), letters.digit(at + 3), letters.digit(at + 4));
        break;
    }
  }

  /** The board with its hole and the pieces in which it is cut. */
  private static final class Board {
    static final int LARGEST = 4;
    private static final int STRIDE = 1 << LARGEST;
    private static final int MOST_PIECES = (STRIDE * STRIDE - 1) / 3;

    int power;
    int holeX;
    int holeY;
    int pieceCount;
    private int side;
    private final int[] cells;
    private final int[] ways;
    private final int[] sizes;
    // A piece is kept as the square of 2 by 2 cells that it fills but for one: it has cells in both
    // columns and in both rows of it, so that windows and borders can be told from the square alone.
    private final int[] lefts;
    private final int[] tops;
    private final boolean[] touched;

    Board() {
      cells = new int[STRIDE * STRIDE];
      ways = new int[MOST_PIECES];
      sizes = new int[MOST_PIECES];
      lefts = new int[MOST_PIECES];
      tops = new int[MOST_PIECES];
      touched = new boolean[MOST_PIECES];
    }

    static boolean isCell(int power, int x, int y) {
      int side = 1 << power;
      return x >= 0 && x < side && y >= 0 && y < side;
    }

    void cutAnew(int newPower, int x, int y) {
      power = newPower;
      side = 1 << newPower;
      holeX = x;
      holeY = y;
      pieceCount = 0;
      for (int i = 0; i < cells.length; i++) {
        cells[i] = NONE;
      }
      cutBlock(this, newPower, 0, 0, x, y);
    }

    private static void cutBlock(Board board, int power, int left, int top, int missingX, int missingY) {
      if (power < 1 || power > LARGEST) {
        return;
      }
      int half = 1 << (power - 1);
      int way = (missingX >= left + half ? 1 : 0) + (missingY >= top + half ? 2 : 0);
      board.lay(way, 2 * half, left + half - 1, top + half - 1);
      for (int quarter = 0; quarter < WAYS; quarter++) {
        int right = quarter & 1;
        int down = quarter >> 1;
        int x = quarter == way ? missingX : left + half - 1 + right;
        int y = quarter == way ? missingY : top + half - 1 + down;
        cutBlock(board, power - 1, left + right * half, top + down * half, x, y);
      }
    }

    private void lay(int way, int blockSize, int left, int top) {
      if (pieceCount >= MOST_PIECES) {
        return;
      }
      ways[pieceCount] = way;
      sizes[pieceCount] = blockSize;
      lefts[pieceCount] = left;
      tops[pieceCount] = top;
      for (int quarter = 0; quarter < WAYS; quarter++) {
        int x = left + (quarter & 1);
        int y = top + (quarter >> 1);
        if (quarter != way && has(x, y)) {
          cells[y * STRIDE + x] = pieceCount;
        }
      }
      pieceCount++;
    }

    boolean has(int x, int y) {
      return isCell(power, x, y);
    }

    boolean hasPiece(int piece) {
      return piece >= 0 && piece < pieceCount;
    }

    int pieceAt(int x, int y) {
      return has(x, y) ? cells[y * STRIDE + x] : NONE;
    }

    int wayOf(int piece) {
      return ways[piece];
    }

    int sizeOf(int piece) {
      return sizes[piece];
    }

    int cornerX(int piece) {
      int opposite = 3 - ways[piece];
      return lefts[piece] + (opposite & 1);
    }

    int cornerY(int piece) {
      int opposite = 3 - ways[piece];
      return tops[piece] + (opposite >> 1);
    }

    int touching(int piece) {
      for (int i = 0; i < touched.length; i++) {
        touched[i] = false;
      }
      for (int quarter = 0; quarter < WAYS; quarter++) {
        if (quarter != ways[piece]) {
          touchAround(lefts[piece] + (quarter & 1), tops[piece] + (quarter >> 1));
        }
      }
      touched[piece] = false;
      int others = 0;
      for (int i = 0; i < pieceCount; i++) {
        others += touched[i] ? 1 : 0;
      }
      return others;
    }

    private void touchAround(int x, int y) {
      touch(x - 1, y);
      touch(x + 1, y);
      touch(x, y - 1);
      touch(x, y + 1);
    }

    private void touch(int x, int y) {
      int piece = pieceAt(x, y);
      if (hasPiece(piece)) {
        touched[piece] = true;
      }
    }

    int inWindow(int fromX, int toX, int fromY, int toY) {
      int inside = 0;
      for (int i = 0; i < pieceCount; i++) {
        boolean columns = lefts[i] >= fromX && lefts[i] + 1 <= toX;
        boolean rows = tops[i] >= fromY && tops[i] + 1 <= toY;
        inside += columns && rows ? 1 : 0;
      }
      return inside;
    }

    int atBorder() {
      return pieceCount - inWindow(1, side - 2, 1, side - 2);
    }

    int lyingIn(int way) {
      int lying = 0;
      for (int i = 0; i < pieceCount; i++) {
        lying += ways[i] == way ? 1 : 0;
      }
      return lying;
    }

    Fraction likelihood(int way) {
      return pieceCount == 0 ? Fraction.inLeastTerms(0, 1) : Fraction.inLeastTerms(lyingIn(way), pieceCount);
    }
  }

  /** The ways in which the four parts of a piece lie, by the way in which it lies itself. */
  private static final class Rule {
    static final int MOST_CUTS = 15;
    private static final int PAIRS = WAYS * WAYS;
    private static final int STEADY_FROM = 4;
    private static final int LOT_DIGITS = 8;

    private final int[] parts;
    private final long[] lying;
    private final long[] fallen;
    private final int[] least;
    private final int[] longer;

    Rule() {
      parts = new int[PAIRS];
      lying = new long[WAYS];
      fallen = new long[WAYS];
      least = new int[PAIRS];
      longer = new int[PAIRS];
      for (int way = 0; way < WAYS; way++) {
        parts[way * WAYS] = way;
        parts[way * WAYS + 1] = way ^ 2;
        parts[way * WAYS + 2] = way ^ 1;
        parts[way * WAYS + 3] = way;
      }
    }

    void copyFrom(Rule other) {
      System.arraycopy(other.parts, 0, parts, 0, PAIRS);
    }

    int wayOfPart(int way, int part) {
      return parts[way * WAYS + part];
    }

    void become(int way, int part, int to) {
      parts[way * WAYS + part] = to;
    }

    long lyingBehind(int way, int cuts, int to) {
      startWith(way);
      for (int i = 0; i < cuts; i++) {
        cutOnce();
      }
      return lying[to];
    }

    private void startWith(int way) {
      for (int i = 0; i < WAYS; i++) {
        lying[i] = i == way ? 1 : 0;
      }
    }

    private void cutOnce() {
      for (int i = 0; i < WAYS; i++) {
        fallen[i] = 0;
      }
      for (int way = 0; way < WAYS; way++) {
        for (int part = 0; part < WAYS; part++) {
          fallen[wayOfPart(way, part)] += lying[way];
        }
      }
      System.arraycopy(fallen, 0, lying, 0, WAYS);
    }

    int cutsToAlike(int way) {
      startWith(way);
      for (int cuts = 1; cuts <= MOST_CUTS; cuts++) {
        cutOnce();
        if (lying[0] == lying[1] && lying[1] == lying[2] && lying[2] == lying[3]) {
          return cuts;
        }
      }
      return NONE;
    }

    int wayAt(int way, int address, int digits) {
      int there = way;
      int rest = address;
      for (int i = 0; i < digits; i++) {
        there = wayOfPart(there, rest & 3);
        rest >>= 2;
      }
      return there;
    }

    /** The fewest digits behind which the two ways meet, or the least address of so many; NONE. */
    int meeting(int way, int other, boolean wantsAddress) {
      for (int pair = 0; pair < PAIRS; pair++) {
        least[pair] = pair / WAYS == pair % WAYS ? 0 : NONE;
      }
      int pair = way * WAYS + other;
      int digits = 0;
      while (least[pair] == NONE && digits < MOST_CUTS) {
        addFirstDigit();
        digits++;
      }
      if (least[pair] == NONE || wantsAddress) {
        return least[pair];
      }
      return digits;
    }

    /** From the least addresses of each pair of ways those with one digit more ahead of them. */
    private void addFirstDigit() {
      for (int pair = 0; pair < PAIRS; pair++) {
        longer[pair] = NONE;
        for (int part = 0; part < WAYS; part++) {
          int rest = least[wayOfPart(pair / WAYS, part) * WAYS + wayOfPart(pair % WAYS, part)];
          int address = rest * WAYS + part;
          if (rest != NONE && (longer[pair] == NONE || address < longer[pair])) {
            longer[pair] = address;
          }
        }
      }
      System.arraycopy(longer, 0, least, 0, PAIRS);
    }

    int steadyWays(int way) {
      int now = 1 << way;
      int steady = 0;
      // From the ways behind 4 cuts, whatever more cuts lead to is reached in fewer steps than there are
      // ways: the most cuts that can be asked for are enough to stand for any number of them.
      for (int cuts = 1; cuts <= MOST_CUTS; cuts++) {
        now = waysBehind(now);
        steady |= cuts >= STEADY_FROM ? now : 0;
      }
      return steady;
    }

    private int waysBehind(int ways) {
      int behind = 0;
      for (int i = 0; i < PAIRS; i++) {
        if ((ways >> (i / WAYS) & 1) == 1) {
          behind |= 1 << parts[i];
        }
      }
      return behind;
    }

    /** How many lots fall on way 0, or the numbers of the ways of all lots added. */
    int drawLots(int way, int times, int seed, boolean wantsTogether) {
      int z = seed;
      int inWayZero = 0;
      int together = 0;
      for (int i = 0; i < times; i++) {
        int there = way;
        for (int digit = 0; digit < LOT_DIGITS; digit++) {
          z = z * 1664525 + 1013904223;
          there = wayOfPart(there, (z & 0x7fffffff) / 256 % WAYS);
        }
        inWayZero += there == 0 ? 1 : 0;
        together += there;
      }
      return wantsTogether ? together : inWayZero;
    }
  }

  /** An exact number of 0 or more in least terms, 0 as 0 by 1; the difference of two may be below 0. */
  private static final class Fraction {
    private static final int VALUATION_OF_ZERO = 99;
    private static final int BITS_OF_LONG = 64;
    private static final int MOST_DIVISIONS = 200;

    final long above;
    final long below;

    private Fraction(long above, long below) {
      this.above = above;
      this.below = below;
    }

    static Fraction inLeastTerms(long above, long below) {
      long divisor = greatestDivisor(Math.abs(above), below);
      return divisor > 1 ? new Fraction(above / divisor, below / divisor) : new Fraction(above, below);
    }

    private static long greatestDivisor(long one, long other) {
      long divisor = one;
      long rest = other;
      for (int i = 0; i < MOST_DIVISIONS && rest != 0; i++) {
        long next = divisor % rest;
        divisor = rest;
        rest = next;
      }
      return divisor;
    }

    Fraction plus(Fraction other) {
      return inLeastTerms(above * other.below + other.above * below, below * other.below);
    }

    Fraction minus(Fraction other) {
      return inLeastTerms(above * other.below - other.above * below, below * other.below);
    }

    Fraction times(Fraction other) {
      return inLeastTerms(above * other.above, below * other.below);
    }

    boolean equalTo(Fraction other) {
      return above == other.above && below == other.below;
    }

    boolean isAbove(long limit) {
      return above > limit || below > limit;
    }

    int valuation() {
      return above == 0 ? VALUATION_OF_ZERO : twosIn(above) - twosIn(below);
    }

    private static int twosIn(long number) {
      int twos = 0;
      while (twos < BITS_OF_LONG && (number >> twos & 1) == 0) {
        twos++;
      }
      return twos;
    }

    long told(int part) {
      return part == 0 ? above : below;
    }

    float asFloat() {
      return (float) above / (float) below;
    }

    double asDouble() {
      return (double) above / (double) below;
    }
  }

  /**
   * Bits of floats and doubles, by arithmetic alone, since the library's own functions are ruled out.
   * Areas and their sums are 0 or from about 1e-17 to 1e6: no sign, no infinity, nothing subnormal.
   */
  private static final class Floats {
    private static final int MOST_STEPS = 1100;

    static int intBits(float value) {
      if (value <= 0.0f) {
        return 0;
      }
      float rest = value;
      int exponent = 127;
      for (int i = 0; i < MOST_STEPS && rest >= 2.0f; i++) {
        rest = rest * 0.5f;
        exponent++;
      }
      for (int i = 0; i < MOST_STEPS && rest < 1.0f; i++) {
        rest = rest * 2.0f;
        exponent--;
      }
      return (exponent << 23) + (int) ((rest - 1.0f) * 8388608.0f);
    }

    static long longBitsOfDouble(double value) {
      if (value <= 0.0) {
        return 0;
      }
      double rest = value;
      long exponent = 1023;
      for (int i = 0; i < MOST_STEPS && rest >= 2.0; i++) {
        rest = rest * 0.5;
        exponent++;
      }
      for (int i = 0; i < MOST_STEPS && rest < 1.0; i++) {
        rest = rest * 2.0;
        exponent--;
      }
      return (exponent << 52) + (long) ((rest - 1.0) * 4503599627370496.0);
    }
  }

  private static final class Point {
    final Fraction x;
    final Fraction y;

    Point(Fraction x, Fraction y) {
      this.x = x;
      this.y = y;
    }

    /** Its colour, or the one that it had with x and y changed. */
    int shade(boolean mirrored) {
      int a = mirrored ? y.valuation() : x.valuation();
      int b = mirrored ? x.valuation() : y.valuation();
      if (a > 0 && b > 0) {
        return 0;
      }
      return a <= b ? 1 : 2;
    }
  }

  /** A triangle as it was when it came: it never changes, so racks and the image may share it. */
  private static final class Triangle {
    private static final int MIRRORED = 3;
    private static final int KINDS = 6;
    // By kinds, 0 .. 5: the kind right above, and by what the area of a plain one becomes theirs.
    private static final int[] KIND_ABOVE = {-1, 0, 0, 0, 1, 3};
    private static final int[] AREA_TIMES = {1, 1, 2, 1, 1, 0};
    private static final int[] AREA_DIVIDED = {1, 2, 1, 1, 4, 1};
    private static final int ALL_COLOURS = 7;

    final int kind;
    final int first;
    final int second;
    final int third;
    final int colours;
    final Fraction area;

    private Triangle(int kind, int first, int second, int third, int colours, Fraction area) {
      this.kind = kind;
      this.first = first;
      this.second = second;
      this.third = third;
      this.colours = colours;
      this.area = area;
    }

    static Triangle lyingOn(Point[] points, int kind, int first, int second, int third) {
      Point a = points[first];
      Point b = points[second];
      Point c = points[third];
      boolean mirrored = isUnder(kind, MIRRORED);
      int colours = 1 << a.shade(mirrored) | 1 << b.shade(mirrored) | 1 << c.shade(mirrored);
      Fraction one = b.x.minus(a.x).times(c.y.minus(a.y));
      Fraction other = c.x.minus(a.x).times(b.y.minus(a.y));
      Fraction twice = one.minus(other);
      Fraction area = Fraction.inLeastTerms(
          Math.abs(twice.above) * AREA_TIMES[kind], twice.below * 2 * AREA_DIVIDED[kind]);
      return new Triangle(kind, first, second, third, colours, area);
    }

    static boolean isKind(int kind) {
      return kind >= 0 && kind < KINDS;
    }

    /** Whether a kind is another one or stands under it. */
    static boolean isUnder(int kind, int other) {
      int now = kind;
      for (int i = 0; i < KINDS && isKind(now); i++) {
        if (now == other) {
          return true;
        }
        now = KIND_ABOVE[now];
      }
      return false;
    }

    boolean isRainbow() {
      return colours == ALL_COLOURS;
    }
  }

  /** The points and the triangles on them. */
  private static final class Shapes {
    static final int MOST = 10;
    private static final long LARGEST_IN_SUM = 1000000000L;

    final Point[] points;
    final Triangle[] triangles;
    int pointCount;
    int triangleCount;

    Shapes() {
      points = new Point[MOST];
      triangles = new Triangle[MOST];
    }

    void copyFrom(Shapes other) {
      pointCount = other.pointCount;
      triangleCount = other.triangleCount;
      for (int i = 0; i < MOST; i++) {
        points[i] = other.points[i];
        triangles[i] = other.triangles[i];
      }
    }

    boolean hasPoint(int point) {
      return point >= 0 && point < pointCount;
    }

    boolean hasTriangle(int triangle) {
      return triangle >= 0 && triangle < triangleCount;
    }

    boolean hasSet(int set) {
      return set >= 0 && set >> triangleCount == 0;
    }

    static boolean areThree(int points, int a, int b, int c) {
      boolean there = a >= 0 && a < points && b >= 0 && b < points && c >= 0 && c < points;
      return there && a != b && a != c && b != c;
    }

    /** Each of x and y as 100 times the number above the line, and the number below it. */
    void addPoint(int xs, int ys) {
      if (pointCount < MOST) {
        points[pointCount] = new Point(fractionOf(xs), fractionOf(ys));
        pointCount++;
      }
    }

    private static Fraction fractionOf(int told) {
      return Fraction.inLeastTerms(told / 100, told % 100);
    }

    void addTriangle(int kind, int a, int b, int c) {
      if (triangleCount < MOST && areThree(pointCount, a, b, c)) {
        triangles[triangleCount] = Triangle.lyingOn(points, kind, a, b, c);
        triangleCount++;
      }
    }

    private boolean isIn(int set, int triangle) {
      return (set >> triangle & 1) == 1;
    }

    /** The sum of areas, or null if a number on the way is too great. */
    Fraction exactSum(int set) {
      Fraction total = Fraction.inLeastTerms(0, 1);
      for (int i = 0; i < triangleCount; i++) {
        if (isIn(set, i)) {
          Fraction area = triangles[i].area;
          if (area.isAbove(LARGEST_IN_SUM)) {
            return null;
          }
          total = total.plus(area);
          if (total.isAbove(LARGEST_IN_SUM)) {
            return null;
          }
        }
      }
      return total;
    }

    int evenOnes(int set) {
      int found = 0;
      for (int i = 0; i < triangleCount; i++) {
        if (isIn(set, i) && triangles[i].area.valuation() <= -1) {
          found |= 1 << i;
        }
      }
      return found;
    }

    int rainbows(int set) {
      int found = 0;
      for (int i = 0; i < triangleCount; i++) {
        if (isIn(set, i) && triangles[i].isRainbow()) {
          found |= 1 << i;
        }
      }
      return found;
    }

    boolean areAlike(int set) {
      Fraction seen = null;
      for (int i = 0; i < triangleCount; i++) {
        if (isIn(set, i)) {
          if (seen != null && !seen.equalTo(triangles[i].area)) {
            return false;
          }
          seen = triangles[i].area;
        }
      }
      return true;
    }

    float floatSum(int set) {
      float total = 0.0f;
      for (int i = 0; i < triangleCount; i++) {
        if (isIn(set, i)) {
          total = total + triangles[i].area.asFloat();
        }
      }
      return total;
    }

    double doubleSum(int set) {
      double total = 0.0;
      for (int i = 0; i < triangleCount; i++) {
        if (isIn(set, i)) {
          total = total + triangles[i].area.asDouble();
        }
      }
      return total;
    }
  }

  /** A row for triangles of one kind and those under it; its places are made once and used again. */
  private static final class Rack {
    static final int MOST = 9;

    final Triangle[] places;
    int size;
    private int madeFor;

    Rack() {
      places = new Triangle[MOST];
      size = -1;
    }

    boolean isMissing() {
      return size < 0;
    }

    boolean hasPlace(int i) {
      return i >= 0 && i < size;
    }

    boolean takes(Triangle triangle) {
      return triangle == null || Triangle.isUnder(triangle.kind, madeFor);
    }

    void makeFor(int kind, int newSize) {
      madeFor = kind;
      size = newSize;
      for (int i = 0; i < MOST; i++) {
        places[i] = null;
      }
    }

    void copyFrom(Rack other) {
      madeFor = other.madeFor;
      size = other.size;
      for (int i = 0; i < MOST; i++) {
        places[i] = other.places[i];
      }
    }
  }

  /** A row of ints; its places are made once and used again. */
  private static final class Numbers {
    static final int MOST = 40;

    final int[] places;
    int size;

    Numbers() {
      places = new int[MOST];
      size = -1;
    }

    boolean isMissing() {
      return size < 0;
    }

    boolean hasPlace(int i) {
      return i >= 0 && i < size;
    }

    void makeZeros(int newSize) {
      size = newSize;
      for (int i = 0; i < MOST; i++) {
        places[i] = 0;
      }
    }
  }

  /** The letters that have come, and how they are read as statements. */
  private static final class Letters {
    private static final int MOST = 72;
    private static final int SHORTEST_STATEMENT = 6;
    private static final int MOST_STATEMENTS = MOST / SHORTEST_STATEMENT;
    private static final char END = ';';

    int size;
    int statements;
    final int[] begins;
    private final char[] signs;

    Letters() {
      begins = new int[MOST_STATEMENTS];
      signs = new char[MOST];
    }

    boolean isFull() {
      return size >= MOST;
    }

    void append(int sign) {
      if (size < MOST) {
        signs[size] = (char) sign;
        size++;
      }
    }

    void clear() {
      size = 0;
    }

    /** The letter at a place; behind the last one the sign 0, with which nothing goes on. */
    char letterAt(int at) {
      return at >= 0 && at < size ? signs[at] : (char) 0;
    }

    private static int digitsBehind(char sign) {
      switch (sign) {
        case 'b':
        case 'r':
          return 5;
        case 'p':
          return 8;
        case 't':
          return 4;
        default:
          return 0;
      }
    }

    /** Finds where the statements begin: the first place with which no text goes on, or NONE. */
    int read() {
      int at = 0;
      int wrong = size == 0 ? 0 : NONE;
      statements = 0;
      while (at < size && wrong == NONE && statements < MOST_STATEMENTS) {
        wrong = firstWrongFrom(at);
        begins[statements] = at;
        statements++;
        at += digitsBehind(letterAt(at)) + 2;
      }
      return wrong;
    }

    private int firstWrongFrom(int begin) {
      int digits = digitsBehind(letterAt(begin));
      if (digits == 0) {
        return begin;
      }
      for (int at = begin + 1; at <= begin + digits; at++) {
        if (letterAt(at) < '0' || letterAt(at) > '9') {
          return at;
        }
      }
      int end = begin + digits + 1;
      return letterAt(end) == END ? NONE : end;
    }

    int digit(int at) {
      return letterAt(at) - '0';
    }

    int twoDigits(int at) {
      return digit(at) * 10 + digit(at + 1);
    }

    int fourDigits(int at) {
      return twoDigits(at) * 100 + twoDigits(at + 2);
    }
  }

  /** The board, the rule, points and triangles as they were when the image was taken. */
  private static final class Image {
    boolean taken;
    private int power;
    private int holeX;
    private int holeY;
    private final Rule rule;
    private final Shapes shapes;

    Image() {
      rule = new Rule();
      shapes = new Shapes();
    }

    void take(Board fromBoard, Rule fromRule, Shapes fromShapes) {
      power = fromBoard.power;
      holeX = fromBoard.holeX;
      holeY = fromBoard.holeY;
      rule.copyFrom(fromRule);
      shapes.copyFrom(fromShapes);
      taken = true;
    }

    void giveBack(Board toBoard, Rule toRule, Shapes toShapes) {
      toBoard.cutAnew(power, holeX, holeY);
      toRule.copyFrom(rule);
      toShapes.copyFrom(shapes);
    }
  }
}
