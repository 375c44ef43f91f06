import java.util.ArrayList;
import java.util.List;

/** Promises 24 to 30: looking at sequents, cutting them off, and the trace. */
public final class SequentsTest {
  private static final String INDEX = Check.INDEX;
  private static final String ARGUMENT = Check.ARGUMENT;

  private final SequentMill x = new SequentMill();
  private final int truths = x.type(0, 0, 0);
  private final int one = x.type(2, truths, truths);
  private final int p = x.free(0, truths);
  private final int q = x.free(1, truths);

  public static void main(String[] args) {
    new SequentsTest().conclusion();
    new SequentsTest().hypotheses();
    new SequentsTest().size();
    new SequentsTest().cut();
    new SequentsTest().cutOfEntries();
    new SequentsTest().cutOfDefinitions();
    new SequentsTest().traceOfTypesAndTerms();
    new SequentsTest().traceOfSteps();
    new SequentsTest().traceOfRetype();
    new SequentsTest().refusedCallsLeaveNoTrace();
    Check.done();
  }

  private static List<Integer> traceOf(SequentMill x, int from) {
    List<Integer> all = new ArrayList<>();
    for (int i = from; i < x.traced(); i++) {
      all.add(x.trace(i));
    }
    return all;
  }

  private void conclusion() {
    int a = x.assume(p);
    int b = x.refl(p);
    Check.due("24: a new handle", 2, () -> x.conclusion(a));
    Check.due("24: and another", 3, () -> x.conclusion(a));
    Check.same("24: the conclusion", true, x.same(2, p));
    Check.due("24: of the next", 4, () -> x.conclusion(b));
    Check.same("24: p = p", List.of(-1, -1, 2, 1, 1), TermsTest.prefix(x, 4));
    Check.refused("24: no sequent", INDEX, () -> x.conclusion(2));
    Check.refused("24: below 0", INDEX, () -> x.conclusion(-1));
  }

  private void hypotheses() {
    int a = x.antisym(x.assume(p), x.assume(q));
    Check.due("25: two", 2, () -> x.hypotheses(a));
    Check.due("25: one", 1, () -> x.hypotheses(0));
    Check.due("25: none", 0, () -> x.hypotheses(x.refl(p)));
    Check.refused("25: no sequent", INDEX, () -> x.hypotheses(99));
    Check.refused("25: below 0", INDEX, () -> x.hypotheses(-1));
    Check.due("26: the first", 2, () -> x.hypothesis(a, 0));
    Check.due("26: the second", 3, () -> x.hypothesis(a, 1));
    Check.same("26: p", true, x.same(2, p));
    Check.same("26: q", true, x.same(3, q));
    Check.refused("26: no third", INDEX, () -> x.hypothesis(a, 2));
    Check.refused("26: below 0", INDEX, () -> x.hypothesis(a, -1));
    Check.refused("26: another sequent's", INDEX, () -> x.hypothesis(0, 1));
    Check.refused("26: none at all", INDEX, () -> x.hypothesis(3, 0));
    Check.refused("26: no sequent", INDEX, () -> x.hypothesis(99, 0));
  }

  private void size() {
    Check.due("27: none", 0, () -> x.size());
    x.refl(p);
    Check.due("27: one", 1, () -> x.size());
    Check.refused("27: a refused call", INDEX, () -> x.refl(99));
    Check.due("27: still one", 1, () -> x.size());
    x.defineType(x.refl(x.abstraction(p, p)));
    Check.due("27: a new type makes two", 4, () -> x.size());
  }

  private void cut() {
    x.assume(p);
    int first = x.traced();
    x.antisym(0, x.assume(q));
    x.antisym(2, 0);
    Check.refusedAction("28: too many", ARGUMENT, () -> x.cut(5));
    Check.refusedAction("28: below 0", ARGUMENT, () -> x.cut(-1));
    int all = x.traced();
    x.cut(4);
    Check.due("28: none cut off", 4, () -> x.size());
    Check.due("28: the trace stays", all, () -> x.traced());
    x.cut(1);
    Check.due("28: one left", 1, () -> x.size());
    Check.due("28: its trace", first, () -> x.traced());
    Check.refused("28: no more", INDEX, () -> x.hypotheses(1));
    Check.due("28: the next number", 1, () -> x.refl(q));
    Check.due("28: its hypotheses", 0, () -> x.hypotheses(1));
    Check.due("28: the first's hypotheses", 1, () -> x.hypotheses(0));
    x.cut(0);
    Check.due("28: none left", 0, () -> x.size());
    Check.due("28: no trace", 0, () -> x.traced());
    Check.due("28: from the start", 0, () -> x.assume(q));
  }

  private void cutOfEntries() {
    x.refl(p);
    x.refl(q);
    List<Integer> before = traceOf(x, 0);
    int f = x.free(3, one);
    x.refl(x.apply(f, p));
    x.cut(2);
    Check.same("28: entries before the step go, too", before, traceOf(x, 0));
    x.refl(x.apply(f, q));
    Check.same("28: and come again", List.of(1, 2, 0, 0, 2, 3, 1, 4, 2, 1, 10, 3),
        traceOf(x, before.size()));
  }

  private void cutOfDefinitions() {
    int id = x.abstraction(p, p);
    x.refl(p);
    x.define(id);
    x.refl(q);
    Check.refusedAction("28: a definition", ARGUMENT, () -> x.cut(1));
    Check.refusedAction("28: a definition further on", ARGUMENT, () -> x.cut(0));
    x.cut(2);
    Check.due("28: behind it", 2, () -> x.size());
    x.defineType(x.refl(id));
    x.refl(q);
    Check.refusedAction("28: a new type's first", ARGUMENT, () -> x.cut(3));
    Check.refusedAction("28: a new type's second", ARGUMENT, () -> x.cut(4));
    x.cut(5);
    Check.due("28: behind them", 5, () -> x.size());
    Check.due("28: nothing to cut off", 5, () -> {
      x.cut(5);
      return x.size();
    });
  }

  private void traceOfTypesAndTerms() {
    Check.refused("30: no trace", INDEX, () -> x.trace(0));
    Check.due("29: no trace", 0, () -> x.traced());
    int things = x.type(1, 0, 0);
    int a = x.typeVariable(42);
    int u = x.free(5, a);
    int f = x.free(6, x.type(2, things, x.type(2, a, truths)));
    int t = x.free(7, things);
    int body = x.apply(x.apply(f, t), u);
    int term = x.abstraction(u, x.abstraction(t, body));
    x.refl(term);
    List<Integer> want = new ArrayList<>();
    want.addAll(List.of(0, 42)); // type 0: 'a, over which the outer abstraction is
    want.addAll(List.of(1, 1)); // type 1: things, over which the inner one is
    want.addAll(List.of(1, 0)); // type 2: truths
    want.addAll(List.of(1, 2, 0, 2)); // type 3: 'a to truths
    want.addAll(List.of(1, 2, 1, 3)); // type 4: f's
    want.addAll(List.of(2, 6, 4)); // term 0: f
    want.addAll(List.of(6, 0, 1)); // term 1: bound, the inner abstraction's
    want.addAll(List.of(4, 0, 1)); // term 2
    want.addAll(List.of(6, 1, 0)); // term 3: bound, the outer abstraction's
    want.addAll(List.of(4, 2, 3)); // term 4
    want.addAll(List.of(5, 1, 4)); // term 5: the inner abstraction
    want.addAll(List.of(5, 0, 5)); // term 6
    want.addAll(List.of(10, 6));
    Check.same("30: entries and step", want, traceOf(x, 0));
    Check.due("29: so many", want.size(), () -> x.traced());
    Check.refused("30: behind the last", INDEX, () -> x.trace(want.size()));
    Check.refused("30: below 0", INDEX, () -> x.trace(-1));
    x.refl(body);
    List<Integer> more = List.of(2, 7, 1, 4, 0, 7, 2, 5, 0, 4, 8, 9, 10, 10);
    Check.same("30: only what has no entry yet", more, traceOf(x, want.size()));
    Check.due("30: the same term", want.size() + more.size() + 2, () -> {
      x.refl(body);
      return x.traced();
    });
  }

  private void traceOfSteps() {
    int pp = x.conclusion(x.refl(p)); // 1 0, 2 0 0, 10 0
    int id = x.abstraction(p, p);
    x.assume(pp); // = needs types 1, 2 and terms 1 to 3
    x.refl(id); // 6 0 0 and 5 0 4 are terms 4, 5
    x.beta(x.apply(id, p)); // 4 5 0 is term 6
    List<Integer> want = new ArrayList<>(List.of(1, 0, 2, 0, 0, 10, 0));
    want.addAll(List.of(1, 2, 0, 0, 1, 2, 0, 1, 3, 0, 2, 4, 1, 0, 4, 2, 0, 15, 3));
    want.addAll(List.of(6, 0, 0, 5, 0, 4, 10, 5));
    want.addAll(List.of(4, 5, 0, 14, 6));
    Check.same("30: leaves", want, traceOf(x, 0));
    int at = x.traced();
    x.trans(0, 1);
    x.applied(2, 0);
    x.abstracted(q, 0); // 2 1 0 is term 7
    x.equal(x.antisym(0, 0), 0);
    x.put(0, p, q);
    x.define(id);
    x.defineType(2);
    x.axiom(1);
    want.clear();
    want.addAll(List.of(11, 0, 1, 12, 2, 0, 2, 1, 0, 13, 7, 0, 17, 0, 0, 16, 7, 0, 18, 0, 0, 7));
    want.addAll(List.of(20, 5, 21, 2, 22, 1));
    Check.same("30: steps", want, traceOf(x, at));
  }

  private void traceOfRetype() {
    x.axiom(0);
    int a = x.typeVariable(8);
    int set = x.type(2, a, truths);
    x.retype(0, 1, set, 0, a);
    x.retype(0, 1, a, 1, a);
    x.retype(0, 0, one, 5, one);
    List<Integer> want = new ArrayList<>(List.of(22, 0));
    want.addAll(List.of(0, 8, 1, 0, 1, 2, 0, 1, 19, 0, 2, 1, 2, 0, 0));
    want.addAll(List.of(19, 0, 1, 1, 0));
    want.addAll(List.of(1, 2, 1, 1, 19, 0, 2, 0, 3, 5, 3));
    Check.same("30: retype", want, traceOf(x, 0));
  }

  private void refusedCallsLeaveNoTrace() {
    int high = p;
    int g = x.free(5, one);
    for (int i = 0; i < 119; i++) {
      high = x.apply(g, high);
    }
    int top = high;
    Check.refused("29: too high", Check.STATE, () -> x.refl(top));
    Check.due("29: no entries of a refused call", 0, () -> x.traced());
    x.refl(q);
    Check.same("30: the first entries", List.of(1, 0, 2, 1, 0, 10, 0), traceOf(x, 0));
  }
}
