import com.sun.management.ThreadMXBean;
import java.lang.management.ManagementFactory;

/** What 512 calls make stays far below the room in which all calls of a run live. */
public final class RoomTest {
  private static final int CALLS = 512;
  // An object takes 16 bytes at the least: at the most a tenth of the room's 600000 objects.
  private static final long MOST_BYTES = 16 * 60000;
  private static final ThreadMXBean THREADS = (ThreadMXBean) ManagementFactory.getThreadMXBean();
  private static final String TEXT = "t0012;t1012;t2012;t3012;t4012;t5012;t0210;t1210;t2210;t3210;p98979798;";
  private static final Due due = new Due();

  /** A call that is asked again and again. */
  private interface Call {
    void ask(CutInCopies x, int i);
  }

  public static void main(String[] args) {
    room("an object", CutInCopies::new, 1);
    same("text", RoomTest::imaged, RoomTest::letterOrText);
    same("board", State::full, (x, i) -> x.board(4, i % 16, i / 16 % 16));
    same("of", State::full, (x, i) -> x.of(i % 21, 4));
    same("within", State::full, (x, i) -> x.within(0, 7, 0, 7));
    same("odds", State::full, (x, i) -> x.odds(i % 4, 1));
    same("behind", State::full, (x, i) -> x.behind(i % 4, 15, i % 3));
    same("meet", State::full, (x, i) -> x.meet(i % 4, (i + 1) % 4, 1));
    same("lots", State::full, (x, i) -> x.lots(i % 4, 50, i, 1));
    same("points and triangles", State::bare, RoomTest::shapes);
    same("sum", State::full, (x, i) -> x.sum(i + 1, 1));
    same("sum of none too great", RoomTest::halves, (x, i) -> x.sum(1023, 1));
    same("even", State::full, (x, i) -> x.even(1023, i % 3));
    same("bitsOf", State::full, (x, i) -> x.bitsOf(1023, i % 2));
    same("longBits", State::full, (x, i) -> x.longBits(1023));
    same("rack", State::full, (x, i) -> x.rack(i % 3, 0, 9));
    same("like", State::full, (x, i) -> x.like(i % 3, (i + 1) % 3));
    same("list", State::full, (x, i) -> x.list(i % 3, 40));
    same("judge", State::full, (x, i) -> x.judge(i % 3));
    same("image", State::full, (x, i) -> x.image());
    same("on", State::full, (x, i) -> x.on());
    due.end();
  }

  /** Three points as in its image, and no letters. */
  private static CutInCopies imaged() {
    CutInCopies x = State.full();
    x.text();
    x.on();
    return x;
  }

  private static CutInCopies halves() {
    CutInCopies x = new CutInCopies();
    x.point(101, 101);
    x.point(297, 101);
    x.point(101, 289);
    for (int i = 0; i < 10; i++) {
      x.triangle(i % 5, 0, 1, 2);
    }
    return x;
  }

  /** Ten triangles and a point are typed and come, over and over, each time on the three points of the image. */
  private static void letterOrText(CutInCopies x, int i) {
    int at = i % (TEXT.length() + 1);
    if (at < TEXT.length()) {
      x.letter(TEXT.charAt(at));
    } else {
      due.is("a text that comes", x.text(), 11);
      x.on();
    }
  }

  /** As many triangles as there may be, and back to the three points of the image. */
  private static void shapes(CutInCopies x, int i) {
    if (i % 12 == 0) {
      x.on();
    } else if (i % 12 == 1) {
      x.point(9897, 9798);
    } else {
      x.triangle(4, i % 3, 3, (i + 1) % 3);
    }
  }

  private static void same(String name, java.util.function.Supplier<CutInCopies> made, Call call) {
    CutInCopies x = made.get();
    room(name, () -> {
      for (int i = 0; i < CALLS; i++) {
        call.ask(x, i);
      }
    }, CALLS);
  }

  private static void room(String name, Runnable calls, int times) {
    long before = THREADS.getCurrentThreadAllocatedBytes();
    calls.run();
    long bytes = THREADS.getCurrentThreadAllocatedBytes() - before;
    due.is(times + " of " + name + " make " + bytes + " bytes, at most " + MOST_BYTES, bytes <= MOST_BYTES ? 1 : 0, 1);
  }
}
