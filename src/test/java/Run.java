/** A run of calls on one object, each with the answer that is due. */
final class Run {
  private final Due due;
  private final String name;
  private final CutInCopies x;

  Run(Due due, String name, CutInCopies x) {
    this.due = due;
    this.name = name;
    this.x = x;
  }

  Run(Due due, String name) {
    this(due, name, new CutInCopies());
  }

  Run is(String call, long want) {
    due.is(name + ": " + call, Calls.ask(x, call), want);
    return this;
  }

  /** Calls whose answers are looked at elsewhere. */
  Run with(String... calls) {
    for (String call : calls) {
      Calls.ask(x, call);
    }
    return this;
  }

  Run text(String letters, long want) {
    due.is(name + ": text of " + letters, Due.text(x, letters), want);
    return this;
  }

  Run type(String letters) {
    Due.type(x, letters);
    return this;
  }

  /** A call that is refused, told as the number behind the refusal, far where the call answers longs. */
  Run refused(String call, long refusal) {
    return is(call, Calls.isFar(call) ? Due.FAR - refusal : refusal);
  }

  Run refusals(int nobody, int other, int state, int below, int room) {
    due.refusals(name, x, nobody, other, state, below, room);
    return this;
  }
}
