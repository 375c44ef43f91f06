import java.util.ArrayList;
import java.util.List;

/**
 * Calls that are refused in one state. Each is tried on objects made anew, and what these answer
 * after it is what objects answer on which it has not been tried.
 */
final class Refusals {
  interface Script {
    void run(Bench b);
  }

  interface Call {
    int answer(Bench b);
  }

  /** Each looks at another kind of room that a refused call might have taken. */
  private static final List<Script> PROBES = List.of(Bench::look, Bench::goOn,
      Bench::tellRoomForSequents, Bench::tellRoomForTerms, Bench::tellRoomForTypes,
      Bench::tellRoomForConstants, Bench::tellRoomForConstructors);

  private final String state;
  private final Script script;
  private final List<List<Integer>> untouched = new ArrayList<>();

  Refusals(String state, Script script) {
    this.state = state;
    this.script = script;
    for (Script probe : PROBES) {
      Bench b = bench("untouched");
      untouched.add(answersOf(b, probe));
    }
  }

  private Bench bench(String what) {
    Bench b = new Bench(state + ", " + what);
    script.run(b);
    return b;
  }

  private static List<Integer> answersOf(Bench b, Script probe) {
    int from = b.x.answers.size();
    probe.run(b);
    b.x.keptToCalls();
    return new ArrayList<>(b.x.answers.subList(from, b.x.answers.size()));
  }

  private void tried(String what, int exception, Call call) {
    for (int i = 0; i < PROBES.size(); i++) {
      Bench b = bench(what);
      Check.same(state + ", " + what, exception, call.answer(b));
      Check.same(state + ", " + what + ": nothing has changed, probe " + i, untouched.get(i),
          answersOf(b, PROBES.get(i)));
    }
  }

  /** A handle or sequent that is none. */
  void index(String what, Call call) {
    tried(what, Twin.INDEX, call);
  }

  /** What the call or its rule names. */
  void argument(String what, Call call) {
    tried(what, Twin.ARGUMENT, call);
  }

  /** A limit. */
  void state(String what, Call call) {
    tried(what, Twin.STATE, call);
  }

  /** The call is taken in this state. */
  void taken(String what, Call call) {
    Bench b = bench(what);
    Check.same(state + ", " + what + " is taken", true, call.answer(b) >= 0);
    b.x.keptToCalls();
  }
}
