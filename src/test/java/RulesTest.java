import java.util.ArrayList;
import java.util.List;

/** Promises 11 to 20: the rules that sequents are made with. */
public final class RulesTest {
  private static final String INDEX = Check.INDEX;
  private static final String ARGUMENT = Check.ARGUMENT;

  private final SequentMill x = new SequentMill();
  private final int truths = x.type(0, 0, 0);
  private final int one = x.type(2, truths, truths);
  private final int two = x.type(2, truths, one);
  private final int p = x.free(0, truths);
  private final int q = x.free(1, truths);
  private final int r = x.free(2, truths);
  private final int equality = x.constant(0, two);

  public static void main(String[] args) {
    new RulesTest().refl();
    new RulesTest().trans();
    new RulesTest().applied();
    new RulesTest().abstracted();
    new RulesTest().beta();
    new RulesTest().assume();
    new RulesTest().equal();
    new RulesTest().antisym();
    new RulesTest().joinedOnce();
    new RulesTest().put();
    new RulesTest().putMerges();
    new RulesTest().retype();
    new RulesTest().retypeMerges();
    Check.done();
  }

  private int equation(int l, int r) {
    return x.apply(x.apply(equality, l), r);
  }

  /** The conclusion's symbols. */
  private List<Integer> said(int a) {
    return TermsTest.prefix(x, x.conclusion(a));
  }

  /** The symbols of each hypothesis. */
  private List<List<Integer>> supposed(int a) {
    List<List<Integer>> all = new ArrayList<>();
    for (int i = 0; i < x.hypotheses(a); i++) {
      all.add(TermsTest.prefix(x, x.hypothesis(a, i)));
    }
    return all;
  }

  /** Nothing has changed: the sequents and the trace are as many as before. */
  private void refused(String what, String exception, Check.Call call) {
    int size = x.size();
    int traced = x.traced();
    Check.refused(what, exception, call);
    Check.due(what + ", size", size, () -> x.size());
    Check.due(what + ", traced", traced, () -> x.traced());
  }

  private void refl() {
    Check.due("11: number", 0, () -> x.refl(p));
    Check.same("11: p = p", List.of(-1, -1, 2, 1, 1), said(0));
    Check.due("11: hypotheses", 0, () -> x.hypotheses(0));
    Check.due("11: number of the next", 1, () -> x.refl(x.abstraction(p, p)));
    Check.same("11: id = id", List.of(-1, -1, 2, -2, 0, -2, 0), said(1));
    refused("11: no term", INDEX, () -> x.refl(99));
    refused("11: below 0", INDEX, () -> x.refl(-1));
  }

  private void trans() {
    int a = x.assume(equation(p, q));
    int b = x.assume(equation(q, r));
    Check.due("12: number", 2, () -> x.trans(a, b));
    Check.same("12: p = r", List.of(-1, -1, 2, 1, 9), said(2));
    Check.same("12: joined", List.of(List.of(-1, -1, 2, 1, 5), List.of(-1, -1, 2, 5, 9)),
        supposed(2));
    refused("12: not the same t", ARGUMENT, () -> x.trans(b, a));
    int c = x.assume(p);
    refused("12: no equation first", ARGUMENT, () -> x.trans(c, a));
    refused("12: no equation second", ARGUMENT, () -> x.trans(a, c));
    refused("12: no first", INDEX, () -> x.trans(99, c));
    refused("12: no second", INDEX, () -> x.trans(c, -1));
    Check.due("12: with itself", 4, () -> x.trans(x.size() - 4, 1));
  }

  private void applied() {
    int f = x.free(0, one);
    int g = x.free(1, one);
    int ofOnes = x.constant(0, x.type(2, one, x.type(2, one, truths)));
    int a = x.assume(x.apply(x.apply(ofOnes, f), g));
    int b = x.assume(equation(p, q));
    Check.due("13: number", 2, () -> x.applied(a, b));
    Check.same("13: f p = g q", List.of(-1, -1, 2, -1, 1, 1, -1, 5, 5), said(2));
    Check.same("13: joined", List.of(List.of(-1, -1, 2, 1, 5), List.of(-1, -1, 2, 1, 5)),
        supposed(2));
    refused("13: f no function", ARGUMENT, () -> x.applied(b, b));
    refused("13: functions from another type", ARGUMENT, () -> x.applied(a, a));
    int c = x.assume(p);
    refused("13: no equation first", ARGUMENT, () -> x.applied(c, b));
    refused("13: no equation second", ARGUMENT, () -> x.applied(a, c));
    refused("13: no first", INDEX, () -> x.applied(99, c));
    refused("13: no second", INDEX, () -> x.applied(c, 99));
    int ids = x.refl(x.abstraction(p, p));
    Check.due("13: of abstractions", 5, () -> x.applied(ids, b));
    Check.same("13: id p = id q", List.of(-1, -1, 2, -1, -2, 0, 1, -1, -2, 0, 5), said(5));
  }

  private void abstracted() {
    int a = x.assume(equation(p, q));
    int b = x.refl(equation(p, q));
    Check.due("14: number", 2, () -> x.abstracted(p, b));
    Check.same("14: over p",
        List.of(-1, -1, 2, -2, -1, -1, 2, 0, 5, -2, -1, -1, 2, 0, 5), said(2));
    Check.due("14: over r", 3, () -> x.abstracted(r, a));
    Check.same("14: \\r. p = \\r. q", List.of(-1, -1, 2, -2, 1, -2, 5), said(3));
    Check.same("14: the same hypotheses", List.of(List.of(-1, -1, 2, 1, 5)), supposed(3));
    refused("14: in a hypothesis", ARGUMENT, () -> x.abstracted(q, a));
    refused("14: no variable", ARGUMENT, () -> x.abstracted(equality, b));
    int c = x.assume(p);
    refused("14: no equation", ARGUMENT, () -> x.abstracted(r, c));
    refused("14: no term", INDEX, () -> x.abstracted(99, c));
    refused("14: no sequent", INDEX, () -> x.abstracted(equality, 99));
    int other = x.free(0, one);
    Check.due("14: the same number of another type", 5, () -> x.abstracted(other, a));
  }

  private void beta() {
    int inner = x.abstraction(q, equation(p, q));
    int t = x.apply(x.abstraction(p, inner), r);
    Check.due("15: number", 0, () -> x.beta(t));
    Check.same("15: (\\p. \\q. p = q) r = (\\q. r = q)", List.of(-1, -1, 2,
        -1, -2, -2, -1, -1, 2, 4, 0, 9, -2, -1, -1, 2, 9, 0), said(0));
    Check.due("15: hypotheses", 0, () -> x.hypotheses(0));
    int toTerm = x.apply(x.abstraction(p, p), equation(p, q));
    refused("15: to no variable", ARGUMENT, () -> x.beta(toTerm));
    refused("15: no application", ARGUMENT, () -> x.beta(p));
    refused("15: of no abstraction", ARGUMENT, () -> x.beta(x.apply(x.free(0, one), p)));
    refused("15: an abstraction", ARGUMENT, () -> x.beta(inner));
    refused("15: no term", INDEX, () -> x.beta(99));
    int toConstant = x.apply(x.abstraction(x.free(0, two), p), equality);
    refused("15: to a constant", ARGUMENT, () -> x.beta(toConstant));
  }

  private void assume() {
    Check.due("16: number", 0, () -> x.assume(p));
    Check.same("16: p", List.of(1), said(0));
    Check.same("16: p supposed", List.of(List.of(1)), supposed(0));
    refused("16: not of truths", ARGUMENT, () -> x.assume(equality));
    refused("16: an abstraction", ARGUMENT, () -> x.assume(x.abstraction(p, p)));
    refused("16: of a variable type", ARGUMENT, () -> x.assume(x.free(0, x.typeVariable(0))));
    refused("16: no term", INDEX, () -> x.assume(99));
  }

  private void equal() {
    int a = x.assume(equation(p, q));
    int b = x.assume(p);
    Check.due("17: number", 2, () -> x.equal(a, b));
    Check.same("17: q", List.of(5), said(2));
    Check.same("17: joined", List.of(List.of(-1, -1, 2, 1, 5), List.of(1)), supposed(2));
    int c = x.assume(q);
    refused("17: not p", ARGUMENT, () -> x.equal(a, c));
    refused("17: no equation", ARGUMENT, () -> x.equal(b, b));
    refused("17: the other way round", ARGUMENT, () -> x.equal(b, a));
    refused("17: no first", INDEX, () -> x.equal(-1, b));
    refused("17: no second", INDEX, () -> x.equal(b, 99));
  }

  private void antisym() {
    int a = x.equal(x.assume(equation(p, q)), x.assume(p));
    int b = x.equal(x.assume(equation(q, p)), x.assume(q));
    Check.due("18: number", 6, () -> x.antisym(a, b));
    Check.same("18: q = p", List.of(-1, -1, 2, 5, 1), said(6));
    Check.same("18: but p and q", List.of(List.of(-1, -1, 2, 1, 5), List.of(-1, -1, 2, 5, 1)),
        supposed(6));
    Check.due("18: with itself", 7, () -> x.antisym(1, 1));
    Check.same("18: p = p", List.of(-1, -1, 2, 1, 1), said(7));
    Check.same("18: nothing left", List.of(), supposed(7));
    Check.due("18: p and q", 8, () -> x.antisym(1, 4));
    Check.same("18: both left", List.of(List.of(1), List.of(5)), supposed(8));
    refused("18: no first", INDEX, () -> x.antisym(99, 0));
    refused("18: no second", INDEX, () -> x.antisym(0, 99));
  }

  private void joinedOnce() {
    int a = x.antisym(x.assume(p), x.assume(q));
    int b = x.antisym(x.assume(r), x.assume(p));
    int c = x.antisym(a, b);
    Check.same("joined: those of the first, then the others of the second",
        List.of(List.of(1), List.of(5), List.of(9)), supposed(c));
  }

  private void put() {
    int t = equation(q, r);
    int a = x.equal(x.assume(equation(p, q)), x.assume(p));
    Check.due("19: number", 3, () -> x.put(a, q, t));
    Check.same("19: in the conclusion", List.of(-1, -1, 2, 5, 9), said(3));
    Check.same("19: in the hypotheses",
        List.of(List.of(-1, -1, 2, 1, -1, -1, 2, 5, 9), List.of(1)), supposed(3));
    Check.due("19: under an abstraction", 4, () -> x.refl(x.abstraction(p, equation(p, q))));
    Check.due("19: under an abstraction", 5, () -> x.put(4, q, p));
    Check.same("19: a free variable stays free",
        List.of(-1, -1, 2, -2, -1, -1, 2, 0, 1, -2, -1, -1, 2, 0, 1), said(5));
    Check.due("19: what is not in it", 6, () -> x.put(4, p, q));
    Check.same("19: no bound variable is changed",
        List.of(-1, -1, 2, -2, -1, -1, 2, 0, 5, -2, -1, -1, 2, 0, 5), said(6));
    refused("19: of another type", ARGUMENT, () -> x.put(a, q, equality));
    refused("19: no variable", ARGUMENT, () -> x.put(a, t, p));
    refused("19: no sequent", INDEX, () -> x.put(99, t, p));
    refused("19: no variable's handle", INDEX, () -> x.put(a, 99, p));
    refused("19: no term", INDEX, () -> x.put(a, t, -1));
    int set = x.abstraction(p, p);
    int f = x.free(0, one);
    int use = x.assume(x.apply(f, q));
    Check.due("19: an abstraction", 8, () -> x.put(use, f, set));
    Check.same("19: (\\p. p) q", List.of(-1, -2, 0, 5), said(8));
    refused("19: an abstraction of another type", ARGUMENT, () -> x.put(use, q, set));
  }

  private void putMerges() {
    int a = x.antisym(x.antisym(x.assume(p), x.assume(q)), x.assume(r));
    int b = x.put(a, r, p);
    Check.same("19: once, at its first place", List.of(List.of(1), List.of(5)), supposed(b));
    int c = x.put(a, p, r);
    Check.same("19: at its first place", List.of(List.of(9), List.of(5)), supposed(c));
  }

  private void retype() {
    int a = x.typeVariable(0);
    int b = x.typeVariable(7);
    int ab = x.type(2, a, b);
    int f = x.free(5, ab);
    int v = x.free(6, a);
    int s = x.refl(x.abstraction(v, x.apply(f, v)));
    Check.due("20: number", 1, () -> x.retype(s, 0, b, 7, a));
    Check.same("20: the symbols stay", said(s), said(1));
    int got = x.conclusion(1);
    int v2 = x.free(6, b);
    int f2 = x.free(5, x.type(2, b, a));
    int want = x.conclusion(x.refl(x.abstraction(v2, x.apply(f2, v2))));
    Check.same("20: both at once", true, x.same(got, want));
    Check.due("20: one variable", 3, () -> x.retype(s, 0, truths, 0, truths));
    Check.due("20: the same type by another handle", 4,
        () -> x.retype(s, 0, truths, 0, x.type(0, 0, 0)));
    refused("20: one variable, two types", ARGUMENT, () -> x.retype(s, 0, truths, 0, a));
    refused("20: n too large", ARGUMENT, () -> x.retype(s, 1000, a, 1, a));
    refused("20: m below 0", ARGUMENT, () -> x.retype(s, 1, a, -1, a));
    refused("20: no sequent", INDEX, () -> x.retype(99, 1000, a, 1, a));
    refused("20: no t", INDEX, () -> x.retype(s, 1000, 99, 1, a));
    refused("20: no u", INDEX, () -> x.retype(s, 1, a, 1000, -1));
    Check.due("20: variables that are not in it", 5, () -> x.retype(s, 1, truths, 999, a));
    Check.same("20: nothing is changed", true, x.same(x.conclusion(5), x.conclusion(s)));
  }

  private void retypeMerges() {
    int a = x.typeVariable(0);
    int set = x.type(2, a, truths);
    int h1 = x.apply(x.free(5, set), x.free(6, a));
    int h2 = x.apply(x.free(5, one), x.free(6, truths));
    int s = x.antisym(x.assume(h1), x.assume(h2));
    int made = x.retype(s, 0, truths, 0, truths);
    Check.due("20: hypotheses that have become alike", 1, () -> x.hypotheses(made));
    Check.same("20: the one", true, x.same(x.hypothesis(made, 0), h2));
  }
}
