import java.util.ArrayList;
import java.util.List;

/** The sentences of the rules 0 to 12 that name an edge. */
final class RuleSentences {
  private static final int INDEX = Twin.INDEX;
  private static final int ARGUMENT = Twin.ARGUMENT;

  private interface Sentence {
    void hold(RuleSentences t);
  }

  private final String sentence;
  private final Twin x;
  private final int truths;
  private final int one;
  private final int any;
  /** Choice of truths, which is the first term of all. */
  private final int choice;
  private final int p;
  private final int q;
  private final int f;
  private final int g;
  private final int u;
  private final int equality;

  private RuleSentences(String sentence) {
    this.sentence = sentence;
    x = new Twin(sentence);
    truths = x.type(0, 0, 0);
    one = x.type(2, truths, truths);
    any = x.typeVariable(0);
    choice = x.constant(1, x.type(2, one, truths));
    p = x.free(0, truths);
    q = x.free(1, truths);
    f = x.free(0, one);
    g = x.free(1, one);
    u = x.free(0, any);
    equality = x.constant(0, x.type(2, truths, one));
  }

  static void main() {
    holds("0 refl t: |- t = t", RuleSentences::refl);
    holds("1 trans: the same t, joined", RuleSentences::trans);
    holds("2 applied: f of functions from x's type, joined", RuleSentences::applied);
    holds("3 abstracted: a free variable that is in no hypothesis", RuleSentences::abstracted);
    holds("3 abstracted: the same hypotheses", RuleSentences::abstractedHypotheses);
    holds("4 beta: the body with that for its variable", RuleSentences::beta);
    holds("5 assume t: t, with t as the hypothesis", RuleSentences::assume);
    holds("6 equal: q, joined", RuleSentences::equal);
    holds("7 antisym: the first one's but q, the second one's but p", RuleSentences::antisym);
    holds("8 put: t for v", RuleSentences::put);
    holds("8 put: what is alike then stands once, at its first place", RuleSentences::putMerges);
    holds("9 retype: two type variables at once", RuleSentences::retype);
    holds("9 retype: the first one again, then it counts nothing", RuleSentences::retypeOnce);
    holds("10 define: all type variables in it in its type", RuleSentences::define);
    holds("10 define: a type variable in few of its symbols", RuleSentences::defineHidden);
    holds("10 define: in its type, under many abstractions", RuleSentences::defineDeep);
    holds("8 put: a term of its type, under many abstractions", RuleSentences::putDeep);
    holds("11 defineType: at most two type variables", RuleSentences::defineType);
    holds("11 defineType: in P", RuleSentences::defineTypeOfP);
    holds("11 defineType: in the rising order of their numbers", RuleSentences::risingOrder);
    holds("11 defineType: P is a constant, the first term", RuleSentences::defineTypeOfChoice);
    holds("12 axiom: types put in", RuleSentences::axiomTypes);
  }

  private static void holds(String name, Sentence sentence) {
    RuleSentences made = new RuleSentences(name);
    sentence.hold(made);
    made.x.keptToCalls();
  }

  private void due(String what, int want, int got) {
    Check.same(sentence + ": " + what, want, got);
  }

  /** The symbols of the conclusion, then those of the hypotheses, are these. */
  private void says(String what, int a, List<?>... due) {
    Check.same(sentence + ": " + what + " is taken", true, a >= 0);
    List<List<Integer>> got = new ArrayList<>();
    got.add(SentencesTest.symbols(x, x.conclusion(a)));
    int many = x.hypotheses(a);
    for (int i = 0; i < many; i++) {
      got.add(SentencesTest.symbols(x, x.hypothesis(a, i)));
    }
    Check.same(sentence + ": " + what, List.of(due), got);
  }

  private static List<Integer> eq(int l, int r) {
    return List.of(-1, -1, 2, l, r);
  }

  private int equation(int l, int r) {
    return x.apply(x.apply(equality, l), r);
  }

  private void refl() {
    says("a variable", x.refl(p), eq(1, 1));
    says("a constant", x.refl(equality), eq(2, 2));
    says("an application", x.refl(x.apply(f, p)), List.of(-1, -1, 2, -1, 1, 1, -1, 1, 1));
    says("an abstraction", x.refl(x.abstraction(p, q)), List.of(-1, -1, 2, -2, 5, -2, 5));
    says("of a type variable", x.refl(u), eq(1, 1));
  }

  private void trans() {
    int pq = x.assume(equation(p, q));
    int qp = x.assume(equation(q, p));
    says("there and back", x.trans(pq, qp), eq(1, 1), eq(1, 5), eq(5, 1));
    says("back and there", x.trans(qp, pq), eq(5, 5), eq(5, 1), eq(1, 5));
    says("with itself", x.trans(x.refl(p), x.refl(p)), eq(1, 1));
    says("a hypothesis of both stands once", x.trans(x.trans(pq, qp), pq), eq(1, 5), eq(1, 5),
        eq(5, 1));
    due("p = q, p = q", ARGUMENT, x.trans(pq, pq));
    int other = x.free(1, any);
    due("the same number of another type", ARGUMENT, x.trans(pq, x.refl(other)));
    int h = x.free(7, x.typeOf(equality));
    int hpq = x.assume(x.apply(x.apply(h, p), q));
    due("a free variable for equality, first", ARGUMENT, x.trans(hpq, qp));
    due("a free variable for equality, second", ARGUMENT, x.trans(qp, hpq));
    due("a free variable for equality, twice", ARGUMENT, x.trans(hpq, x.put(hpq, p, q)));
    int fp = x.assume(x.apply(f, p));
    due("f p has no right side", ARGUMENT, x.trans(fp, pq));
    int idp = x.refl(x.abstraction(p, p));
    int idq = x.refl(x.abstraction(q, q));
    says("names of bound variables do not count", x.trans(idp, idq),
        List.of(-1, -1, 2, -2, 0, -2, 0));
  }

  private void applied() {
    int pq = x.assume(equation(p, q));
    int ff = x.refl(f);
    says("f p = f q", x.applied(ff, pq), List.of(-1, -1, 2, -1, 1, 1, -1, 1, 5), eq(1, 5));
    due("f of f", ARGUMENT, x.applied(ff, ff));
    due("p of p", ARGUMENT, x.applied(x.refl(p), pq));
    due("f of u", ARGUMENT, x.applied(ff, x.refl(u)));
    int k = x.free(7, x.type(2, one, x.type(2, one, truths)));
    int kff = x.assume(x.apply(x.apply(k, f), f));
    due("a free variable for equality, first", ARGUMENT, x.applied(kff, pq));
    int hpq = x.assume(x.apply(x.apply(x.free(7, x.typeOf(equality)), p), q));
    due("a free variable for equality, second", ARGUMENT, x.applied(ff, hpq));
    due("a free variable for equality, twice", ARGUMENT, x.applied(kff, hpq));
    int ids = x.refl(x.abstraction(p, p));
    says("an abstraction", x.applied(ids, pq),
        List.of(-1, -1, 2, -1, -2, 0, 1, -1, -2, 0, 5), eq(1, 5));
    int h = x.refl(x.free(2, x.type(2, one, one)));
    says("of an abstraction", x.applied(h, ids),
        List.of(-1, -1, 2, -1, 9, -2, 0, -1, 9, -2, 0));
    says("a function is answered", x.applied(x.refl(equality), pq),
        List.of(-1, -1, 2, -1, 2, 1, -1, 2, 5), eq(1, 5));
  }

  private void abstracted() {
    int pq = x.assume(equation(p, q));
    due("p is in it", ARGUMENT, x.abstracted(p, pq));
    due("q is in it", ARGUMENT, x.abstracted(q, pq));
    int bound = x.free(2, truths);
    int k = x.free(3, x.type(2, one, truths));
    int h = x.assume(x.apply(k, x.abstraction(bound, bound)));
    int under = x.antisym(h, h);
    says("what is bound there is not in it", x.abstracted(bound, x.antisym(under, h)),
        List.of(-1, -1, 2, -2, -1, -1, 2, -1, 13, -2, 0, -1, 13, -2, 0, -2, -1, 13, -2, 0),
        List.of(-1, 13, -2, 0));
    int sameNumber = x.free(0, any);
    says("the same number of another type is not in it", x.abstracted(sameNumber, pq),
        List.of(-1, -1, 2, -2, 1, -2, 5), eq(1, 5));
    says("no hypothesis", x.abstracted(p, x.refl(p)), List.of(-1, -1, 2, -2, 0, -2, 0));
    says("nothing to bind", x.abstracted(q, x.refl(p)), List.of(-1, -1, 2, -2, 1, -2, 1));
    due("no equation", ARGUMENT, x.abstracted(q, x.assume(p)));
    int huu = x.refl(x.apply(x.apply(x.free(7, x.typeOf(equality)), p), q));
    due("a free variable for equality", ARGUMENT,
        x.abstracted(u, x.assume(x.apply(x.apply(x.free(7, x.typeOf(equality)), p), q))));
    due("an equation of such", huu + 2, x.abstracted(u, huu));
  }

  private void abstractedHypotheses() {
    int a = x.trans(x.assume(equation(p, q)), x.assume(equation(q, p)));
    says("two, in their order", x.abstracted(u, a), List.of(-1, -1, 2, -2, 1, -2, 1), eq(1, 5),
        eq(5, 1));
  }

  private void beta() {
    int body = equation(p, q);
    says("q for p, where q is free already", x.beta(x.apply(x.abstraction(p, body), q)),
        List.of(-1, -1, 2, -1, -2, -1, -1, 2, 0, 5, 5, -1, -1, 2, 5, 5));
    says("p for p", x.beta(x.apply(x.abstraction(p, body), p)),
        List.of(-1, -1, 2, -1, -2, -1, -1, 2, 0, 5, 1, -1, -1, 2, 1, 5));
    says("nothing to put in", x.beta(x.apply(x.abstraction(p, q), p)),
        List.of(-1, -1, 2, -1, -2, 5, 1, 5));
    says("the inner variable stays", x.beta(x.apply(x.abstraction(p, x.abstraction(p, p)), q)),
        List.of(-1, -1, 2, -1, -2, -2, 0, 5, -2, 0));
    says("under an abstraction", x.beta(x.apply(x.abstraction(p, x.abstraction(q, p)), q)),
        List.of(-1, -1, 2, -1, -2, -2, 4, 5, -2, 5));
    int inner = x.apply(x.abstraction(p, p), q);
    due("inside an application", ARGUMENT, x.beta(x.apply(f, inner)));
    due("inside an abstraction", ARGUMENT, x.beta(x.abstraction(q, inner)));
    due("to an application", ARGUMENT, x.beta(x.apply(x.abstraction(p, p), inner)));
    due("applied twice", ARGUMENT,
        x.beta(x.apply(x.apply(x.abstraction(p, x.abstraction(q, p)), q), p)));
  }

  private void assume() {
    says("a variable", x.assume(p), List.of(1), List.of(1));
    says("an equation", x.assume(equation(p, q)), eq(1, 5), eq(1, 5));
    due("of 'a", ARGUMENT, x.assume(u));
    int a = x.assume(p);
    due("the same again", a + 1, x.assume(p));
  }

  private void equal() {
    int pq = x.assume(equation(p, q));
    says("q", x.equal(pq, x.assume(p)), List.of(5), eq(1, 5), List.of(1));
    int pp = x.assume(equation(p, p));
    says("p = p of p = p", x.equal(x.antisym(pp, pp), pp), eq(1, 1), eq(1, 1));
    int both = x.antisym(x.assume(p), pq);
    says("a hypothesis of both stands once", x.equal(both, x.assume(p)), eq(1, 5), List.of(1),
        eq(1, 5));
    due("an equation of functions", ARGUMENT, x.equal(x.refl(f), x.assume(p)));
    int hpq = x.assume(x.apply(x.apply(x.free(7, x.typeOf(equality)), p), q));
    due("a free variable for equality", ARGUMENT, x.equal(hpq, x.assume(p)));
    due("not the left side", ARGUMENT, x.equal(pq, x.assume(q)));
  }

  private void antisym() {
    int sp = x.assume(p);
    int sq = x.assume(q);
    says("neither is the other's", x.antisym(sp, sq), eq(1, 5), List.of(1), List.of(5));
    says("of one", x.antisym(sp, sp), eq(1, 1));
    int qFromBoth = x.equal(x.assume(equation(p, q)), sp);
    says("the second one's but p", x.antisym(sp, qFromBoth), eq(1, 5), List.of(1), eq(1, 5));
    says("the first one's but q, which the second one has", x.antisym(qFromBoth, sp), eq(5, 1),
        eq(1, 5), List.of(1));
    int pFromBoth = x.equal(x.assume(equation(q, p)), sq);
    says("both", x.antisym(qFromBoth, pFromBoth), eq(5, 1), eq(1, 5), eq(5, 1));
    int pp = x.assume(equation(p, p));
    List<Integer> twice = List.of(-1, -1, 2, -1, -1, 2, 1, 1, -1, -1, 2, 1, 1);
    says("the first one's but q", x.antisym(pp, x.refl(p)), twice);
    says("the second one's but p, alone", x.antisym(x.refl(p), pp), twice);
    says("the first one's own conclusion stays", x.antisym(sq, qFromBoth), eq(5, 5), eq(1, 5),
        List.of(1));
    says("no hypotheses", x.antisym(x.refl(p), x.refl(p)),
        List.of(-1, -1, 2, -1, -1, 2, 1, 1, -1, -1, 2, 1, 1));
  }

  private void put() {
    int pq = x.assume(equation(p, q));
    says("q for p", x.put(pq, p, q), eq(5, 5), eq(5, 5));
    says("p for itself", x.put(pq, p, p), eq(1, 5), eq(1, 5));
    says("what is not in it", x.put(pq, x.free(7, truths), q), eq(1, 5), eq(1, 5));
    int fp = x.apply(f, p);
    says("a term with the variable in it, once", x.put(x.assume(fp), p, fp),
        List.of(-1, 1, -1, 1, 1), List.of(-1, 1, -1, 1, 1));
    int hides = x.refl(x.abstraction(p, equation(p, q)));
    says("what is bound stays, what comes in stays free", x.put(hides, q, p),
        List.of(-1, -1, 2, -2, -1, -1, 2, 0, 1, -2, -1, -1, 2, 0, 1));
    says("no free variable is bound by it", x.put(hides, p, q),
        List.of(-1, -1, 2, -2, -1, -1, 2, 0, 5, -2, -1, -1, 2, 0, 5));
    says("an abstraction for a function", x.put(x.assume(fp), f, x.abstraction(p, p)),
        List.of(-1, -2, 0, 1), List.of(-1, -2, 0, 1));
    says("the same number of another type stays", x.put(x.refl(u), p, q), eq(1, 1));
  }

  private void putMerges() {
    int r = x.free(2, truths);
    int sp = x.assume(p);
    int all = x.antisym(x.antisym(sp, x.assume(q)), x.assume(r));
    List<Integer> said = List.of(-1, -1, 2, -1, -1, 2, 1, 1, 9);
    says("the second is the first", x.put(all, q, p), said, List.of(1), List.of(9));
    says("the first is the second", x.put(all, p, q),
        List.of(-1, -1, 2, -1, -1, 2, 5, 5, 9), List.of(5), List.of(9));
    says("the first is the last", x.put(all, p, r),
        List.of(-1, -1, 2, -1, -1, 2, 9, 5, 9), List.of(9), List.of(5));
    says("the last is the second", x.put(all, r, q),
        List.of(-1, -1, 2, -1, -1, 2, 1, 5, 5), List.of(1), List.of(5));
    int one = x.put(x.put(all, q, p), r, p);
    says("all are one", one, List.of(-1, -1, 2, -1, -1, 2, 1, 1, 1), List.of(1));
  }

  private void retype() {
    int b = x.typeVariable(1);
    int w = x.free(0, b);
    int a = x.refl(x.abstraction(u, w));
    int changed = x.retype(a, 0, b, 1, any);
    int back = x.refl(x.abstraction(w, u));
    due("exchanged", 1, x.same(x.conclusion(changed), x.conclusion(back)));
    int turned = x.retype(a, 1, any, 0, b);
    due("in the other order", 1, x.same(x.conclusion(changed), x.conclusion(turned)));
    int set = x.type(2, any, b);
    int nested = x.retype(a, 0, set, 1, b);
    int due = x.refl(x.abstraction(x.free(0, set), w));
    due("what is put in stays", 1, x.same(x.conclusion(nested), x.conclusion(due)));
    int none = x.retype(a, 998, set, 999, b);
    due("variables that are not in it", 1, x.same(x.conclusion(none), x.conclusion(a)));
    int alikeNow = x.retype(x.antisym(x.assume(x.apply(x.free(5, x.type(2, any, truths)), u)),
        x.assume(x.apply(x.free(5, x.type(2, b, truths)), w))), 0, truths, 1, truths);
    due("what is alike then stands once", 1, x.hypotheses(alikeNow));
  }

  private void retypeOnce() {
    int b = x.typeVariable(1);
    int a = x.refl(x.abstraction(u, x.free(0, b)));
    int once = x.retype(a, 0, truths, 0, truths);
    int want = x.refl(x.abstraction(p, x.free(0, b)));
    due("the other variable stays", 1, x.same(x.conclusion(once), x.conclusion(want)));
    due("by another handle of the type", want + 1, x.retype(a, 0, truths, 0, x.typeOf(p)));
    due("of another type", ARGUMENT, x.retype(a, 0, truths, 0, one));
    due("of no type", INDEX, x.retype(a, 0, truths, 0, 99));
    int traced = x.traced();
    x.retype(a, 0, truths, 0, truths);
    due("five numbers", traced + 5, x.traced());
    x.retype(a, 0, truths, 1, truths);
    due("seven numbers", traced + 12, x.traced());
  }

  private void define() {
    int b = x.typeVariable(1);
    int w = x.free(0, b);
    int anyId = x.abstraction(u, u);
    due("in its type", 0, x.define(anyId));
    due("two in its type", 1, x.define(x.abstraction(u, x.abstraction(w, u))));
    int said = x.conclusion(x.refl(anyId));
    due("in no type of it", ARGUMENT, x.define(said));
    due("one of two", ARGUMENT, x.define(x.abstraction(w, said)));
    due("in its type by another abstraction", 3, x.define(x.abstraction(u, said)));
    due("a constant of 'b", 4,
        x.define(x.constant(0, x.type(2, b, x.type(2, b, truths)))));
    due("a free variable of its own type", ARGUMENT, x.define(u));
    due("a free variable under an abstraction", ARGUMENT, x.define(x.abstraction(u, w)));
  }

  /** A closed term of truths. */
  private int closed() {
    return x.conclusion(x.refl(x.abstraction(p, p)));
  }

  /** K (\p. c): the type variable is in the own types of K and c alone. */
  private void defineHidden() {
    int truth = closed();
    int choose = x.constant(1, x.type(2, x.type(2, any, truths), any));
    due("c", 1, x.define(x.apply(choose, x.abstraction(u, truth))));
    due("K", 2, x.define(x.abstraction(x.free(0, x.type(2, truths, any)), truth)));
    int b = x.typeVariable(1);
    int things = x.type(1, 0, 0);
    due("of a type variable", ARGUMENT, x.define(hidden(b)));
    due("of things", 3, x.define(hidden(things)));
  }

  private int hidden(int type) {
    int k = x.constant(3, x.type(2, x.type(2, truths, type), truths));
    return x.apply(k, x.abstraction(p, x.constant(2, type)));
  }

  /** The abstraction over u of u, under others over q. */
  private int nested(int abstractions) {
    int nest = x.abstraction(u, u);
    for (int i = 1; i < abstractions; i++) {
      nest = x.abstraction(q, nest);
    }
    return nest;
  }

  private void defineDeep() {
    int nest = nested(21);
    due("the innermost one's", 0, x.define(nest));
    Check.same("its constant", true, x.constant(2, x.typeOf(nest)) >= 0);
    int left = any;
    for (int h = 2; h <= 21; h++) {
      left = x.type(2, left, truths);
    }
    int set = x.abstraction(x.free(0, left), closed());
    due("deep in a variable's type", 2, x.define(set));
    Check.same("its constant", true, x.constant(3, x.typeOf(set)) >= 0);
  }

  private void putDeep() {
    int nest = nested(22);
    int type = x.typeOf(nest);
    int ofNest = x.free(0, x.type(2, type, truths));
    int v = x.free(1, type);
    Check.same("applied to it", true, x.apply(ofNest, nest) >= 0);
    int a = x.assume(x.apply(ofNest, v));
    due("it is taken", a + 1, x.put(a, v, nest));
    int shorter = x.abstraction(q, x.free(0, x.typeOf(x.abstraction(q, q))));
    due("another is not", ARGUMENT, x.put(a, v, shorter));
  }

  private void defineType() {
    int b = x.typeVariable(1);
    int c = x.typeVariable(2);
    int w = x.free(0, b);
    int z = x.free(0, c);
    int none = x.refl(x.abstraction(p, p));
    int oneOf = x.refl(x.abstraction(u, u));
    int twoOf = x.refl(x.abstraction(u, x.abstraction(w, w)));
    int threeOf = x.refl(x.abstraction(u, x.abstraction(w, x.abstraction(z, z))));
    due("none", 4, x.defineType(none));
    due("one", 6, x.defineType(oneOf));
    due("two", 8, x.defineType(twoOf));
    due("three", ARGUMENT, x.defineType(threeOf));
    due("size", 10, x.size());
    due("of the same sequent again", 10, x.defineType(none));
    due("another constructor", ARGUMENT, x.type(7, truths, truths));
    due("the last constructor", 7, x.type(6, -1, -1));
  }

  /** The type variables of x alone do not count, nor do its free variables. */
  private void defineTypeOfP() {
    int id = x.abstraction(p, p);
    int v1 = x.free(0, x.typeVariable(1));
    int v2 = x.free(0, x.typeVariable(2));
    int wide = x.abstraction(u, x.abstraction(v1, x.abstraction(v2, p)));
    int v = x.free(5, x.typeOf(wide));
    int t = x.apply(x.abstraction(v, id), v);
    int there = x.put(x.beta(t), v, wide);
    int l = x.apply(x.abstraction(v, id), wide);
    int type = x.typeOf(id);
    int ofOnes = x.constant(0, x.type(2, type, x.type(2, type, truths)));
    int same = x.refl(l);
    int half = x.applied(x.refl(ofOnes), there);
    int back = x.equal(x.applied(half, same), same);
    due("id = (\\v. id) (.. p), three type variables and p in x", back + 1, x.defineType(back));
    due("its constructor takes none", x.plain.typeHandles.size(), x.type(3, -1, -1));
    due("there they are in P", ARGUMENT, x.defineType(there));
  }

  private void risingOrder() {
    int high = x.typeVariable(999);
    int low = x.typeVariable(0);
    int s = x.free(0, high);
    int t = x.free(0, low);
    int first = x.abstraction(s, x.abstraction(t, s));
    x.defineType(x.refl(first));
    int old = x.typeOf(first);
    due("0, then 999", x.plain.termHandles.size(),
        x.constant(2, x.type(2, old, x.type(3, low, high))));
    due("not 999, then 0", ARGUMENT, x.constant(2, x.type(2, old, x.type(3, high, low))));
    due("FRO", x.plain.termHandles.size(),
        x.constant(3, x.type(2, x.type(3, low, high), old)));
  }

  /** From axiom 1 for the identity and truth: |- choice (\\p. p), from which a type is made. */
  private void defineTypeOfChoice() {
    int id = x.abstraction(p, p);
    int idIsId = x.refl(id);
    int truth = x.conclusion(idIsId);
    int chosen = x.apply(choice, id);
    int idTruth = x.apply(id, truth);
    int idChosen = x.apply(id, chosen);
    int idOf = x.beta(x.apply(id, p));
    int holds = x.equal(turned(x.put(idOf, p, truth), idTruth), idIsId);
    int axiom = x.retype(x.axiom(1), 0, truths, 0, truths);
    int implied = x.put(x.put(axiom, g, id), p, truth);
    int both = x.equal(turned(implied, and(idTruth, idChosen)), holds);
    int a = x.free(20, truths);
    int second = x.abstraction(a, id);
    int h = x.free(77, x.type(2, truths, one));
    int left = x.abstraction(h, x.apply(x.apply(h, idTruth), idChosen));
    int right = x.abstraction(h, x.apply(x.apply(h, truth), truth));
    int sameOfSecond = x.applied(both, x.refl(second));
    int secondOf = x.beta(x.apply(second, a));
    int leftIs = x.trans(x.put(x.beta(x.apply(left, h)), h, second),
        selected(x.put(secondOf, a, idTruth), idChosen, idOf));
    int rightIs = x.trans(x.put(x.beta(x.apply(right, h)), h, second),
        selected(x.put(secondOf, a, truth), truth, idOf));
    int there = x.trans(turned(rightIs, x.apply(right, second)),
        turned(sameOfSecond, x.apply(left, second)));
    int all = x.trans(x.trans(there, leftIs), x.put(idOf, p, chosen));
    int said = x.equal(all, idIsId);
    says("choice of the identity", said, List.of(-1, 6, -2, 0));
    due("its type", said + 1, x.defineType(said));
    says("TO (FRO a) = a", said + 1, List.of(-1, -1, 2, -1, 10, -1, 14, 1, 1));
    says("P r = (FRO (TO r) = r)", said + 2,
        List.of(-1, -1, 2, -1, 6, 1, -1, -1, 2, -1, 14, -1, 10, 1, 1));
  }

  /** From |- l = r, of truths, |- r = l. */
  private int turned(int a, int l) {
    int half = x.applied(x.refl(equality), a);
    int same = x.refl(l);
    return x.equal(x.applied(half, same), same);
  }

  /** From |- s t = id and |- id p = p the sequent |- s t y = y. */
  private int selected(int a, int y, int idOf) {
    return x.trans(x.applied(a, x.refl(y)), x.put(idOf, p, y));
  }

  private void axiomTypes() {
    int b = x.typeVariable(1);
    int eta = x.axiom(0);
    int v = x.free(0, any);
    int fun = x.free(1, x.type(2, any, b));
    int left = x.abstraction(v, x.apply(fun, v));
    int type = x.typeOf(fun);
    int ofFunctions = x.constant(0, x.type(2, type, x.type(2, type, truths)));
    due("axiom 0", 1,
        x.same(x.conclusion(eta), x.apply(x.apply(ofFunctions, left), fun)));
    int choice = x.axiom(1);
    int set = x.free(1, x.type(2, any, truths));
    int sp = x.apply(set, v);
    int chosen = x.apply(x.constant(1, x.type(2, x.typeOf(set), any)), set);
    int implied = implies(sp, x.apply(set, chosen));
    due("axiom 1", 1, x.same(x.conclusion(choice), implied));
    due("axiom -1", ARGUMENT, x.axiom(-1));
    due("axiom 3", ARGUMENT, x.axiom(3));
    int things = x.type(1, 0, 0);
    int infinity = x.conclusion(x.axiom(2));
    due("axiom 2", 1, x.same(infinity, infinityOf(things)));
  }

  /** Equality of two terms of the same type, whatever it is. */
  private int equationOf(int l, int r) {
    int type = x.typeOf(l);
    int c = x.constant(0, x.type(2, type, x.type(2, type, truths)));
    return x.apply(x.apply(c, l), r);
  }

  private int truth() {
    int id = x.abstraction(p, p);
    return equationOf(id, id);
  }

  private int and(int l, int r) {
    int h = x.free(77, x.type(2, truths, one));
    int t = truth();
    return equationOf(x.abstraction(h, x.apply(x.apply(h, l), r)),
        x.abstraction(h, x.apply(x.apply(h, t), t)));
  }

  private int implies(int l, int r) {
    return equationOf(and(l, r), l);
  }

  private int all(int v, int body) {
    return equationOf(x.abstraction(v, body), x.abstraction(v, truth()));
  }

  private int some(int v, int body) {
    int set = x.abstraction(v, body);
    int type = x.typeOf(v);
    int choice = x.constant(1, x.type(2, x.type(2, type, truths), type));
    return x.apply(set, x.apply(choice, set));
  }

  /** ? f. (! x. ! y. f x = f y ==> x = y) /\ (? y. ! x. not (y = f x)). */
  private int infinityOf(int things) {
    int fun = x.free(10, x.type(2, things, things));
    int s = x.free(11, things);
    int t = x.free(12, things);
    int alike = equationOf(x.apply(fun, s), x.apply(fun, t));
    int oneToOne = all(s, all(t, implies(alike, equationOf(s, t))));
    int reached = equationOf(t, x.apply(fun, s));
    int never = implies(reached, all(q, q));
    return some(fun, and(oneToOne, some(t, all(s, never))));
  }
}
