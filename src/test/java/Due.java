/** Counts and prints the answers that are not the ones that are due. */
final class Due {
  static final long FAR = 4000000000000000000L;
  private int asked = 0;
  private int wrong = 0;

  void is(String call, long got, long want) {
    asked++;
    if (got != want) {
      wrong++;
      System.out.println(call + " answered " + got + ", due is " + want);
    }
  }

  void same(String when, String got, String want) {
    asked++;
    if (!got.equals(want)) {
      wrong++;
      System.out.println(when + ":\n  seen is " + got + "\n  due is  " + want);
    }
  }

  /** The refusals -1 .. -6 that an object has counted so far. */
  void refusals(String when, CutInCopies x, int nobody, int other, int state, int below, int room) {
    is(when + ": count(11)", x.count(11), nobody);
    is(when + ": count(12)", x.count(12), other);
    is(when + ": count(13)", x.count(13), state);
    is(when + ": count(14)", x.count(14), below);
    is(when + ": count(15)", x.count(15), 0);
    is(when + ": count(16)", x.count(16), room);
  }

  void end() {
    System.out.println(asked + " answers, " + wrong + " not as due");
    if (wrong != 0) {
      System.exit(1);
    }
  }

  static void type(CutInCopies x, String letters) {
    for (int i = 0; i < letters.length(); i++) {
      x.letter(letters.charAt(i));
    }
  }

  static int text(CutInCopies x, String letters) {
    type(x, letters);
    return x.text();
  }
}
