import java.util.ArrayList;
import java.util.List;

/** Makes each call on a SequentMill and on the plain model, and compares what they answer. */
final class Twin {
  /** What a call answers here that throws. */
  static final int INDEX = -100001;
  static final int ARGUMENT = -100002;
  static final int STATE = -100003;
  static final int OTHER = -100004;

  final SequentMill mill = new SequentMill();
  final PlainMill plain = new PlainMill();
  final String name;
  /** What the calls so far have answered. */
  final List<Integer> answers = new ArrayList<>();
  int calls = 0;

  Twin(String name) {
    this.name = name;
  }

  private static int outcome(Check.Call call) {
    try {
      return call.answer();
    } catch (IndexOutOfBoundsException e) {
      return e.getClass() == IndexOutOfBoundsException.class ? INDEX : OTHER;
    } catch (IllegalArgumentException e) {
      return e.getClass() == IllegalArgumentException.class ? ARGUMENT : OTHER;
    } catch (IllegalStateException e) {
      return e.getClass() == IllegalStateException.class ? STATE : OTHER;
    } catch (RuntimeException e) {
      return OTHER;
    }
  }

  private int both(String call, Check.Call real, Check.Call due) {
    calls++;
    int got = outcome(real);
    int want = outcome(due);
    Check.same(name + ", call " + calls + ": " + call, want, got);
    answers.add(got);
    return want;
  }

  /** The document says nothing of what an object answers after so many calls. */
  void keptToCalls() {
    Check.same(name + ": calls, of which 512 are allowed: " + calls, true, calls <= 512);
  }

  int typeVariable(int n) {
    return both("typeVariable " + n, () -> mill.typeVariable(n), () -> plain.typeVariable(n));
  }

  int type(int c, int a, int b) {
    return both("type " + List.of(c, a, b), () -> mill.type(c, a, b), () -> plain.type(c, a, b));
  }

  int free(int n, int a) {
    return both("free " + List.of(n, a), () -> mill.free(n, a), () -> plain.free(n, a));
  }

  int constant(int c, int a) {
    return both("constant " + List.of(c, a), () -> mill.constant(c, a), () -> plain.constant(c, a));
  }

  int apply(int f, int x) {
    return both("apply " + List.of(f, x), () -> mill.apply(f, x), () -> plain.apply(f, x));
  }

  int abstraction(int v, int b) {
    return both("abstraction " + List.of(v, b), () -> mill.abstraction(v, b),
        () -> plain.abstraction(v, b));
  }

  int typeOf(int t) {
    return both("typeOf " + t, () -> mill.typeOf(t), () -> plain.typeOf(t));
  }

  int symbol(int t, int i) {
    return both("symbol " + List.of(t, i), () -> mill.symbol(t, i), () -> plain.symbol(t, i));
  }

  int same(int t, int u) {
    return both("same " + List.of(t, u), () -> mill.same(t, u) ? 1 : 0,
        () -> plain.same(t, u) ? 1 : 0);
  }

  int refl(int t) {
    return both("refl " + t, () -> mill.refl(t), () -> plain.refl(t));
  }

  int trans(int a, int b) {
    return both("trans " + List.of(a, b), () -> mill.trans(a, b), () -> plain.trans(a, b));
  }

  int applied(int a, int b) {
    return both("applied " + List.of(a, b), () -> mill.applied(a, b), () -> plain.applied(a, b));
  }

  int abstracted(int v, int a) {
    return both("abstracted " + List.of(v, a), () -> mill.abstracted(v, a),
        () -> plain.abstracted(v, a));
  }

  int beta(int t) {
    return both("beta " + t, () -> mill.beta(t), () -> plain.beta(t));
  }

  int assume(int t) {
    return both("assume " + t, () -> mill.assume(t), () -> plain.assume(t));
  }

  int equal(int a, int b) {
    return both("equal " + List.of(a, b), () -> mill.equal(a, b), () -> plain.equal(a, b));
  }

  int antisym(int a, int b) {
    return both("antisym " + List.of(a, b), () -> mill.antisym(a, b), () -> plain.antisym(a, b));
  }

  int put(int a, int v, int t) {
    return both("put " + List.of(a, v, t), () -> mill.put(a, v, t), () -> plain.put(a, v, t));
  }

  int retype(int a, int n, int t, int m, int u) {
    return both("retype " + List.of(a, n, t, m, u), () -> mill.retype(a, n, t, m, u),
        () -> plain.retype(a, n, t, m, u));
  }

  int define(int t) {
    return both("define " + t, () -> mill.define(t), () -> plain.define(t));
  }

  int defineType(int a) {
    return both("defineType " + a, () -> mill.defineType(a), () -> plain.defineType(a));
  }

  int axiom(int k) {
    return both("axiom " + k, () -> mill.axiom(k), () -> plain.axiom(k));
  }

  int conclusion(int a) {
    return both("conclusion " + a, () -> mill.conclusion(a), () -> plain.conclusion(a));
  }

  int hypotheses(int a) {
    return both("hypotheses " + a, () -> mill.hypotheses(a), () -> plain.hypotheses(a));
  }

  int hypothesis(int a, int i) {
    return both("hypothesis " + List.of(a, i), () -> mill.hypothesis(a, i),
        () -> plain.hypothesis(a, i));
  }

  int size() {
    return both("size", () -> mill.size(), () -> plain.size());
  }

  int cut(int n) {
    return both("cut " + n, () -> {
      mill.cut(n);
      return 0;
    }, () -> {
      plain.cut(n);
      return 0;
    });
  }

  int traced() {
    return both("traced", () -> mill.traced(), () -> plain.traced());
  }

  int trace(int i) {
    return both("trace " + i, () -> mill.trace(i), () -> plain.trace(i));
  }

  /** Compares all that can be looked at without a change. */
  void compareAll() {
    String at = name + ", after call " + calls + ": ";
    Check.same(at + "size", plain.size(), mill.size());
    List<Integer> numbers = new ArrayList<>();
    for (int i = 0; i < mill.traced(); i++) {
      numbers.add(mill.trace(i));
    }
    Check.same(at + "the trace", plain.trace, numbers);
    Check.same(at + "behind the trace", INDEX, outcome(() -> mill.trace(numbers.size())));
    for (int t = 0; t < plain.termHandles.size(); t++) {
      compareTerm(at, t);
    }
    int terms = plain.termHandles.size();
    Check.same(at + "behind the terms", INDEX, outcome(() -> mill.symbol(terms, 0)));
    for (int a = 0; a < plain.size(); a++) {
      Check.same(at + "hypotheses of " + a, plain.hypotheses(a), mill.hypotheses(a));
    }
    Check.same(at + "behind the sequents", INDEX, outcome(() -> mill.hypotheses(plain.size())));
  }

  private void compareTerm(String at, int t) {
    List<Integer> want = new ArrayList<>();
    plain.termHandles.get(t).prefixInto(want);
    List<Integer> got = new ArrayList<>();
    for (int i = 0; i < want.size(); i++) {
      int place = i;
      got.add(outcome(() -> mill.symbol(t, place)));
    }
    Check.same(at + "term " + t, want, got);
    Check.same(at + "behind term " + t, INDEX, outcome(() -> mill.symbol(t, want.size())));
  }

  /** Compares, at the end, the sequents as well: their terms get handles while there is room. */
  void compareSequents() {
    for (int a = 0; a < plain.size(); a++) {
      int first = conclusion(a);
      for (int i = 0; i < plain.hypotheses(a); i++) {
        hypothesis(a, i);
      }
      if (first == STATE) {
        return;
      }
    }
  }
}
