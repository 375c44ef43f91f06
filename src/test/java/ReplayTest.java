import java.util.ArrayList;
import java.util.List;

/** From the trace alone the sequents can be made again, with the same trace. */
public final class ReplayTest {
  private final SequentMill old;
  private final SequentMill made = new SequentMill();
  private final List<Integer> types = new ArrayList<>();
  /** Each term's entry: its kind and two numbers. */
  private final List<int[]> terms = new ArrayList<>();
  private int at = 0;

  private ReplayTest(SequentMill old) {
    this.old = old;
  }

  public static void main(String[] args) {
    new ReplayTest(someProof()).run();
    Check.done();
  }

  /** All rules, types of one and two variables, nested abstractions, and a cut in between. */
  private static SequentMill someProof() {
    SequentMill x = new SequentMill();
    int truths = x.type(0, 0, 0);
    int a = x.typeVariable(3);
    int b = x.typeVariable(1);
    int u = x.free(0, a);
    int v = x.free(1, b);
    int p = x.free(2, truths);
    int first = x.abstraction(u, x.abstraction(v, u));
    int s = x.refl(first);
    x.defineType(s);
    x.define(first);
    int t = x.apply(x.apply(first, u), v);
    x.refl(t);
    int step = x.beta(x.apply(first, u));
    x.applied(step, x.refl(v));
    x.cut(step);
    int again = x.beta(x.apply(first, u));
    int whole = x.applied(again, x.refl(v));
    int inner = x.beta(x.apply(x.abstraction(v, u), v));
    int sum = x.trans(whole, inner);
    x.abstracted(v, sum);
    x.abstracted(u, x.size() - 1);
    int pp = x.conclusion(x.antisym(x.assume(p), x.assume(p)));
    int h = x.assume(pp);
    int e = x.equal(h, x.assume(p));
    x.put(e, p, pp);
    int made = x.type(3, truths, x.type(3, b, a));
    x.retype(sum, 3, made, 1, truths);
    x.retype(sum, 3, made, 3, made);
    int third = x.axiom(2);
    x.axiom(0);
    x.axiom(1);
    x.defineType(third);
    x.refl(x.conclusion(third));
    return x;
  }

  private int next() {
    at++;
    return old.trace(at - 1);
  }

  private void run() {
    while (at < old.traced()) {
      int kind = next();
      if (kind < 2) {
        replayType(kind);
      } else if (kind < 10) {
        terms.add(new int[] {kind, next(), next()});
      } else {
        replayStep(kind - 10);
      }
    }
    Check.same("size", old.size(), made.size());
    Check.same("traced", old.traced(), made.traced());
    for (int i = 0; i < old.traced(); i++) {
      Check.same("trace " + i, old.trace(i), made.trace(i));
    }
    for (int a = 0; a < old.size(); a++) {
      Check.same("conclusion " + a, TermsTest.prefix(old, old.conclusion(a)),
          TermsTest.prefix(made, made.conclusion(a)));
      Check.same("hypotheses " + a, old.hypotheses(a), made.hypotheses(a));
      for (int i = 0; i < old.hypotheses(a); i++) {
        Check.same("hypothesis " + a + " " + i, TermsTest.prefix(old, old.hypothesis(a, i)),
            TermsTest.prefix(made, made.hypothesis(a, i)));
      }
    }
  }

  private void replayType(int kind) {
    int n = next();
    if (kind == 0) {
      types.add(made.typeVariable(n));
      return;
    }
    // how many types a constructor takes is known from the proof above: 3 takes two, 4 none
    int takes = n == 2 || n == 3 ? 2 : 0;
    int a = takes > 0 ? types.get(next()) : 0;
    int b = takes > 1 ? types.get(next()) : 0;
    types.add(made.type(n, a, b));
  }

  /** A bound variable is a free one until its abstraction is made: 900 and its depth. */
  private int term(int number, List<Integer> bound) {
    int[] entry = terms.get(number);
    switch (entry[0]) {
      case 2:
        return made.free(entry[1], types.get(entry[2]));
      case 3:
        return made.constant(entry[1], types.get(entry[2]));
      case 4:
        return made.apply(term(entry[1], bound), term(entry[2], bound));
      case 5:
        int v = made.free(900 + bound.size(), types.get(entry[1]));
        List<Integer> more = new ArrayList<>(bound);
        more.add(v);
        return made.abstraction(v, term(entry[2], more));
      default:
        return bound.get(bound.size() - 1 - entry[1]);
    }
  }

  private int named() {
    return term(next(), List.of());
  }

  private void replayStep(int rule) {
    switch (rule) {
      case 0 -> made.refl(named());
      case 1 -> made.trans(next(), next());
      case 2 -> made.applied(next(), next());
      case 3 -> made.abstracted(named(), next());
      case 4 -> made.beta(named());
      case 5 -> made.assume(named());
      case 6 -> made.equal(next(), next());
      case 7 -> made.antisym(next(), next());
      case 8 -> made.put(next(), named(), named());
      case 9 -> replayRetype();
      case 10 -> made.define(named());
      case 11 -> made.defineType(next());
      default -> made.axiom(next());
    }
  }

  private void replayRetype() {
    int a = next();
    int many = next();
    int n = next();
    int t = types.get(next());
    if (many == 1) {
      made.retype(a, n, t, n, t);
    } else {
      int m = next();
      made.retype(a, n, t, m, types.get(next()));
    }
  }
}
