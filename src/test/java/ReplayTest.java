import java.util.Arrays;

/** From the trace alone the sequents can be made again, with the same trace. */
public final class ReplayTest {
  private static final int RUNS = 60;

  public static void main(String[] args) {
    Check.same("a proof with all rules", true, isMadeAgain("a proof", someProof()));
    int again = 0;
    for (int seed = 0; seed < RUNS; seed++) {
      again += isMadeAgain("seed " + seed, RandomTest.made(1000 + seed, 200)) ? 1 : 0;
    }
    Check.same("runs that could be made again: " + again, true, again > RUNS * 3 / 4);
    Check.done();
  }

  /** False if there is no room: all terms that are made again have handles, with their parts. */
  private static boolean isMadeAgain(String name, SequentMill old) {
    int[] trace = Replay.traceOf(old);
    Replay replay = new Replay(trace);
    try {
      replay.run();
    } catch (IllegalStateException noRoom) {
      return false;
    }
    SequentMill made = replay.made;
    Check.same(name + ": the trace", Arrays.toString(trace),
        Arrays.toString(Replay.traceOf(made)));
    Check.same(name + ": size", old.size(), made.size());
    for (int a = 0; a < old.size() && a < made.size(); a++) {
      compareSequent(name + ", " + a, a, old, made);
    }
    return true;
  }

  private static void compareSequent(String name, int a, SequentMill old, SequentMill made) {
    Check.same(name + ": hypotheses", old.hypotheses(a), made.hypotheses(a));
    try {
      Check.same(name + ": conclusion", TermsTest.prefix(old, old.conclusion(a)),
          TermsTest.prefix(made, made.conclusion(a)));
      for (int i = 0; i < old.hypotheses(a); i++) {
        Check.same(name + ": hypothesis " + i, TermsTest.prefix(old, old.hypothesis(a, i)),
            TermsTest.prefix(made, made.hypothesis(a, i)));
      }
    } catch (IllegalStateException noRoom) {
      Check.same(name + ": room for handles in a short proof", false, name.startsWith("a proof"));
    }
  }

  /** All rules, types of one and two variables, nested abstractions, and a cut in between. */
  private static SequentMill someProof() {
    SequentMill x = new SequentMill();
    int truths = x.type(0, 0, 0);
    int a = x.typeVariable(3);
    int b = x.typeVariable(1);
    int u = x.free(0, a);
    int v = x.free(1, b);
    int p = x.free(2, truths);
    int first = x.abstraction(u, x.abstraction(v, u));
    int s = x.refl(first);
    x.defineType(s);
    x.define(first);
    int t = x.apply(x.apply(first, u), v);
    x.refl(t);
    int step = x.beta(x.apply(first, u));
    x.applied(step, x.refl(v));
    x.cut(step);
    int again = x.beta(x.apply(first, u));
    int whole = x.applied(again, x.refl(v));
    int inner = x.beta(x.apply(x.abstraction(v, u), v));
    int sum = x.trans(whole, inner);
    x.abstracted(v, sum);
    x.abstracted(u, x.size() - 1);
    int pp = x.conclusion(x.antisym(x.assume(p), x.assume(p)));
    int h = x.assume(pp);
    int e = x.equal(h, x.assume(p));
    x.put(e, p, pp);
    int made = x.type(3, truths, x.type(3, b, a));
    x.retype(sum, 3, made, 1, truths);
    x.retype(sum, 3, made, 3, made);
    int third = x.axiom(2);
    x.axiom(0);
    x.axiom(1);
    x.defineType(third);
    x.refl(x.conclusion(third));
    x.defineType(x.refl(x.abstraction(u, u)));
    int things = x.type(1, 0, 0);
    x.refl(x.constant(6, x.type(2, x.type(4, 0, 0), x.type(2, things, things))));
    x.refl(x.free(0, x.type(5, made, 0)));
    return x;
  }
}
