import java.lang.reflect.Method;
import java.util.ArrayList;
import java.util.Comparator;
import java.util.List;

/** Runs of 512 calls, each asked of an object and of the model of the document: all answers are alike. */
public final class ModelTest {
  private static final int RUNS = 600;
  // Of the 512 calls that are promised some are left for the beginning of a run and for its last letters.
  private static final int CALLS = 512 - 40;
  private static final int[] EDGES = {-2, -1, 3, 4, 5, 6, 7, 8, 9, 10, 11, 13, 14, 15, 16, 39, 40, 41, 49, 50, 51, 99,
      100, 101, 255, 256, 1023, 1024, 9999, 10000, 10001, 1073741823, 1073741824, Integer.MIN_VALUE,
      Integer.MAX_VALUE};
  private static final Due due = new Due();
  private static int z = 20261118;

  public static void main(String[] args) throws Exception {
    List<Method> calls = new ArrayList<>();
    List<Method> told = new ArrayList<>();
    for (Method method : CutInCopies.class.getMethods()) {
      if (method.getDeclaringClass() == CutInCopies.class) {
        calls.add(method);
      }
    }
    calls.sort(Comparator.comparing(Method::getName));
    for (Method method : calls) {
      told.add(Model.class.getDeclaredMethod(method.getName(), method.getParameterTypes()));
    }
    for (int run = 0; run < RUNS; run++) {
      oneRun(run, calls, told);
    }
    due.end();
  }

  private static int below(int bound) {
    z = z * 1103515245 + 12345;
    return (z >>> 8) % bound;
  }

  private static void oneRun(int run, List<Method> calls, List<Method> told) throws Exception {
    CutInCopies x = new CutInCopies();
    Model model = new Model();
    // Some runs hardly ever take a call at its edges, so that much comes together in them.
    int edges = new int[] {0, 3, 12, 40}[run % 4];
    String typed = "";
    if (run % 2 == 1) {
      begin(x, model);
    }
    for (int i = 0; i < CALLS; i++) {
      int call = anyCall(calls);
      Method method = calls.get(call);
      String name = method.getName();
      Object[] with = new Object[method.getParameterCount()];
      for (int k = 0; k < with.length; k++) {
        with[k] = below(100) < edges ? EDGES[below(EDGES.length)] : usual(name, k, model);
      }
      if (name.equals("letter") && below(100) >= edges) {
        typed = typed.isEmpty() ? statement() : typed;
        with[0] = (int) typed.charAt(0);
        typed = typed.substring(1);
      } else if (name.equals("text") && !typed.isEmpty() && below(20) != 0) {
        // Texts would hardly ever be whole, if they were asked for at any letter.
        i = typeAll(x, model, typed, i);
        typed = "";
      }
      long got = ((Number) method.invoke(x, with)).longValue();
      long want = ((Number) told.get(call).invoke(model, with)).longValue();
      due.is("run " + run + " call " + i + ": " + name + java.util.Arrays.toString(with), got, want);
    }
  }

  /** Racks and triangles to begin with: few runs would come to both by themselves. */
  private static void begin(CutInCopies x, Model model) {
    for (int i = 0; i < 4; i++) {
      due.is("begin", x.point(101 * i + 1, 203 * i % 701 + 101), model.point(101 * i + 1, 203 * i % 701 + 101));
    }
    for (int i = 0; i < 5; i++) {
      int a = i % 4;
      due.is("begin", x.triangle(i, a, 3 - a, (a + 2) % 4), model.triangle(i, a, 3 - a, (a + 2) % 4));
    }
    for (int row = 0; row < 3; row++) {
      due.is("begin", x.rack(row, row, 4), model.rack(row, row, 4));
      due.is("begin", x.racks(row, 1, row), model.racks(row, 1, row));
    }
    due.is("begin", x.image(), model.image());
  }

  /** What is undone all the time stays small: calls that make things anew or as they were are asked more seldom. */
  private static int anyCall(List<Method> calls) {
    int call = below(calls.size());
    boolean undoes = List.of("image", "on", "rack", "like", "list", "board").contains(calls.get(call).getName());
    return undoes && below(8) != 0 ? below(calls.size()) : call;
  }

  private static int typeAll(CutInCopies x, Model model, String typed, int calls) {
    for (int i = 0; i < typed.length(); i++) {
      due.is("typed", x.letter(typed.charAt(i)), model.letter(typed.charAt(i)));
    }
    return calls + typed.length();
  }

  /** A number that the call is likely to take. */
  private static int usual(String name, int place, Model model) {
    switch (name) {
      case "point":
        return below(3) == 0 ? 101 + 100 * below(6) : 100 * below(100) + 1 + below(99);
      case "board":
        return place == 0 ? below(5) : below(8);
      case "piece":
      case "within":
        return below(1 << model.count(0));
      case "of":
        return place == 0 ? below(8) : below(5);
      case "pieces":
        return below(5) == 0 ? below(2) : 10 + below(4);
      case "triangle":
        return place == 0 ? below(6) : below(Math.max(3, model.count(1)));
      case "tri":
      case "area":
      case "bits":
        return place == 0 ? below(Math.max(1, model.count(2))) : below(name.equals("tri") ? 7 : 2);
      case "sum":
      case "even":
      case "bitsOf":
      case "longBits":
        return place == 0 ? below(1 << model.count(2)) & below(1024) : below(name.equals("even") ? 3 : 2);
      case "lots":
        return place == 1 ? 1 + below(50) : place == 2 ? z * 31 : below(place == 0 ? 4 : 2);
      case "address":
        return place == 0 ? below(4) : place == 1 ? below(1 << below(20)) : 3 + below(13);
      case "behind":
        return place == 1 ? below(16) : below(4);
      case "meet":
        return below(place == 2 ? 2 : 4);
      case "rack":
        return below(new int[] {3, 6, 6}[place]);
      case "racks":
        return place == 0 ? below(3) : place == 1 ? below(4) : below(model.count(2) + 1) - 1;
      case "racked":
        return below(new int[] {3, 4, 2}[place]);
      case "put":
        return place == 0 ? below(3) : place == 1 ? below(6) : below(4);
      case "list":
        return place == 0 ? below(3) : below(41);
      case "look":
      case "judge":
      case "like":
      case "colour":
      case "odds":
        return below(3);
      case "count":
        return below(18);
      default:
        return below(4);
    }
  }

  private static String statement() {
    char[] digits = new char[8];
    boolean wild = below(12) == 0;
    for (int i = 0; i < digits.length; i++) {
      digits[i] = (char) ('0' + below(wild ? 10 : 4));
    }
    String told = new String(digits);
    switch (below(4)) {
      case 0:
        return "b" + told.charAt(0) + "0" + told.charAt(1) + "0" + told.charAt(2) + ";";
      case 1:
        return "r" + told.substring(0, 5) + ";";
      case 2:
        return "p" + told.substring(0, 3) + "1" + told.substring(4, 7) + "1;";
      default:
        return "t" + told.substring(0, 4) + ";";
    }
  }
}
