import java.util.ArrayList;
import java.util.List;

/** The document's sentences that name an edge, one test for each. */
public final class SentencesTest {
  private static final int INDEX = Twin.INDEX;
  private static final int ARGUMENT = Twin.ARGUMENT;

  private interface Sentence {
    void hold(SentencesTest t);
  }

  private final String sentence;
  private final Twin x;

  private SentencesTest(String sentence) {
    this.sentence = sentence;
    x = new Twin(sentence);
  }

  public static void main(String[] args) {
    holds("no types, terms, sequents", SentencesTest::nothingAtFirst);
    holds("no types, terms, sequents, after refused calls too", SentencesTest::stillNothing);
    holds("types are variables 0 .. 999", SentencesTest::typeVariables);
    holds("0 TRUTHS, 1 THINGS, 2 FUNCTIONS take 0, 0, 2 types", SentencesTest::constructors);
    holds("then such as defineType() makes, with 0 .. 2", SentencesTest::newConstructors);
    holds("free variables 0 .. 999 of a type", SentencesTest::freeVariables);
    holds("constants of a type that their own one becomes", SentencesTest::becomes);
    holds("constants with their own type, of two variables", SentencesTest::becomesOfTwo);
    holds("alike but for names of bound variables", SentencesTest::alike);
    holds("each type that a call answers gets the next handle", SentencesTest::typeHandles);
    holds("each term that a call answers gets the next handle", SentencesTest::termHandles);
    holds("a bound variable 4 i (i abstractions lie between)", SentencesTest::boundVariables);
    holds("a free one 4 n + 1", SentencesTest::freeSigns);
    holds("a constant 4 c + 2", SentencesTest::constantSigns);
    holds("CONSTANTS at first: 0 EQUALITY, 1 CHOICE", SentencesTest::firstConstants);
    holds("l = r is equality applied to l, then r", SentencesTest::equation);
    holds("sequents have numbers 0, 1, ..", SentencesTest::sequentNumbers);
    holds("JOINED: those of the first, then of the second", SentencesTest::joined);
    RuleSentences.main();
    TraceSentences.main();
    Check.done();
  }

  private static void holds(String name, Sentence sentence) {
    SentencesTest made = new SentencesTest(name);
    sentence.hold(made);
    made.x.keptToCalls();
  }

  private void due(String what, int want, int got) {
    Check.same(sentence + ": " + what, want, got);
  }

  /** The symbols of a term that has a few. */
  static List<Integer> symbols(Twin x, int t) {
    List<Integer> all = new ArrayList<>();
    for (int s = x.symbol(t, 0); s != INDEX; s = x.symbol(t, all.size())) {
      all.add(s);
    }
    return all;
  }

  private void dueSymbols(String what, List<Integer> want, int t) {
    Check.same(sentence + ": " + what, want, symbols(x, t));
  }

  private void nothingAtFirst() {
    due("size", 0, x.size());
    due("traced", 0, x.traced());
    due("the trace", INDEX, x.trace(0));
    due("cut at 0", 0, x.cut(0));
    due("cut at 1", ARGUMENT, x.cut(1));
    due("the first type", 0, x.type(0, 0, 0));
    due("the first term", 0, x.free(0, 0));
    due("the first sequent", 0, x.refl(0));
  }

  private void stillNothing() {
    due("type", INDEX, x.type(2, 0, 0));
    due("free", INDEX, x.free(0, 0));
    due("constant", INDEX, x.constant(0, 0));
    due("apply", INDEX, x.apply(0, 0));
    due("abstraction", INDEX, x.abstraction(0, 0));
    due("typeOf", INDEX, x.typeOf(0));
    due("symbol", INDEX, x.symbol(0, 0));
    due("same", INDEX, x.same(0, 0));
    due("refl", INDEX, x.refl(0));
    due("trans", INDEX, x.trans(0, 0));
    due("applied", INDEX, x.applied(0, 0));
    due("abstracted", INDEX, x.abstracted(0, 0));
    due("beta", INDEX, x.beta(0));
    due("assume", INDEX, x.assume(0));
    due("equal", INDEX, x.equal(0, 0));
    due("antisym", INDEX, x.antisym(0, 0));
    due("put", INDEX, x.put(0, 0, 0));
    due("retype", INDEX, x.retype(0, 0, 0, 0, 0));
    due("define", INDEX, x.define(0));
    due("defineType", INDEX, x.defineType(0));
    due("conclusion", INDEX, x.conclusion(0));
    due("hypotheses", INDEX, x.hypotheses(0));
    due("hypothesis", INDEX, x.hypothesis(0, 0));
    due("constructor 3", ARGUMENT, x.type(3, 0, 0));
    due("axiom 3", ARGUMENT, x.axiom(3));
    nothingAtFirst();
  }

  private void typeVariables() {
    due("0", 0, x.typeVariable(0));
    due("999", 1, x.typeVariable(999));
    due("-1", ARGUMENT, x.typeVariable(-1));
    due("1000", ARGUMENT, x.typeVariable(1000));
    due("0 is not 999", 0, x.same(x.free(0, 0), x.free(0, 1)));
    due("999 again", 2, x.typeVariable(999));
    due("is the same", 1, x.same(1, x.free(0, 2)));
    int s = x.refl(x.free(0, 1));
    due("retype of 999", 1, x.retype(s, 999, 0, 999, 0));
    due("makes it 0", 1, x.same(x.conclusion(1), x.conclusion(x.refl(0))));
  }

  private void constructors() {
    due("truths", 0, x.type(0, -1, -1));
    due("things", 1, x.type(1, 77, -77));
    due("functions of no first type", INDEX, x.type(2, 2, 0));
    due("functions of no second type", INDEX, x.type(2, 0, 2));
    due("functions", 2, x.type(2, 0, 1));
    due("-1", ARGUMENT, x.type(-1, 0, 0));
    due("3", ARGUMENT, x.type(3, 0, 0));
    due("truths are no things", 0, x.same(x.free(0, 0), x.free(0, 1)));
  }

  private void newConstructors() {
    int truths = x.type(0, 0, 0);
    int p = x.free(0, truths);
    int u = x.free(0, x.typeVariable(8));
    int w = x.free(0, x.typeVariable(3));
    x.defineType(x.refl(x.abstraction(p, p)));
    x.defineType(x.refl(x.abstraction(u, u)));
    x.defineType(x.refl(x.abstraction(u, x.abstraction(w, u))));
    due("3 takes none", 3, x.type(3, -1, -1));
    due("4 takes one", INDEX, x.type(4, -1, truths));
    due("4 takes no second", 4, x.type(4, truths, -1));
    due("5 takes a first", INDEX, x.type(5, -1, truths));
    due("5 takes a second", INDEX, x.type(5, truths, 5));
    due("5 takes two", 5, x.type(5, truths, 4));
    due("there is no 6", ARGUMENT, x.type(6, truths, truths));
  }

  private void freeVariables() {
    int truths = x.type(0, 0, 0);
    int things = x.type(1, 0, 0);
    due("0", 0, x.free(0, truths));
    due("999", 1, x.free(999, truths));
    due("-1", ARGUMENT, x.free(-1, truths));
    due("1000", ARGUMENT, x.free(1000, truths));
    due("0 of another type", 2, x.free(0, things));
    due("is another", 0, x.same(0, 2));
    due("has the same symbol", 1, x.symbol(2, 0));
    due("0 again", 1, x.same(0, x.free(0, truths)));
  }

  private void becomes() {
    int truths = x.type(0, 0, 0);
    int a = x.typeVariable(0);
    int b = x.typeVariable(1);
    int sets = x.type(2, a, truths);
    int own = x.type(2, a, sets);
    due("its own", 0, x.constant(0, own));
    due("another variable", 1, x.constant(0, x.type(2, b, x.type(2, b, truths))));
    due("one with its variable inside", 2, x.constant(0, x.type(2, own, x.type(2, own, truths))));
    due("truths", 3, x.constant(0, x.type(2, truths, x.type(2, truths, truths))));
    due("two types for one variable", ARGUMENT, x.constant(0, x.type(2, a, x.type(2, b, truths))));
    due("what its variable stands in", ARGUMENT, x.constant(0, x.type(2, own, sets)));
    due("no truths at the end", ARGUMENT, x.constant(0, x.type(2, a, x.type(2, a, a))));
    due("less of functions", ARGUMENT, x.constant(0, sets));
    due("a variable", ARGUMENT, x.constant(0, a));
    int choice = x.type(2, sets, a);
    due("choice's own", 4, x.constant(1, choice));
    due("choice of truths", 5,
        x.constant(1, x.type(2, x.type(2, truths, truths), truths)));
    due("choice of another", ARGUMENT, x.constant(1, x.type(2, sets, b)));
    due("choice as equality", ARGUMENT, x.constant(1, own));
  }

  private void becomesOfTwo() {
    int truths = x.type(0, 0, 0);
    int a = x.typeVariable(0);
    int b = x.typeVariable(1);
    int u = x.free(0, a);
    int w = x.free(0, b);
    x.define(x.abstraction(u, x.abstraction(w, u)));
    int id = x.abstraction(x.free(0, truths), x.free(0, truths));
    x.define(id);
    int next = x.plain.termHandles.size();
    due("variables exchanged", next, x.constant(2, x.type(2, b, x.type(2, a, b))));
    due("both the same", next + 1, x.constant(2, x.type(2, a, x.type(2, a, a))));
    due("the first twice", ARGUMENT, x.constant(2, x.type(2, a, x.type(2, b, b))));
    int functions = x.type(2, a, b);
    due("functions for a variable", next + 2,
        x.constant(2, x.type(2, functions, x.type(2, truths, functions))));
    due("without variables, its own", next + 3, x.constant(3, x.typeOf(id)));
    due("without variables, another", ARGUMENT, x.constant(3, x.type(2, truths, a)));
  }

  private void alike() {
    int truths = x.type(0, 0, 0);
    int f = x.free(9, x.type(2, truths, x.type(2, truths, truths)));
    int p = x.free(0, truths);
    int q = x.free(1, truths);
    int r = x.free(2, truths);
    int fpq = x.apply(x.apply(f, p), q);
    int fqp = x.apply(x.apply(f, q), p);
    int frp = x.apply(x.apply(f, r), p);
    int pq = x.abstraction(p, x.abstraction(q, fpq));
    due("names exchanged", 1, x.same(pq, x.abstraction(q, x.abstraction(p, fqp))));
    due("another name", 1, x.same(pq, x.abstraction(r, x.abstraction(p, frp))));
    due("the other order", 0, x.same(pq, x.abstraction(q, x.abstraction(p, fpq))));
    due("free instead of bound", 0, x.same(x.abstraction(p, fpq), x.abstraction(r, fpq)));
    due("an inner one hides an outer one", 1,
        x.same(x.abstraction(p, x.abstraction(p, p)), x.abstraction(q, x.abstraction(r, r))));
    due("the outer one is meant", 0,
        x.same(x.abstraction(p, x.abstraction(q, p)), x.abstraction(p, x.abstraction(q, q))));
    due("a term and its part", 0, x.same(fpq, p));
    due("itself", 1, x.same(pq, pq));
  }

  private void typeHandles() {
    due("typeVariable", 0, x.typeVariable(4));
    due("type", 1, x.type(0, 0, 0));
    x.free(0, 1);
    due("typeOf", 2, x.typeOf(0));
    due("the same type again", 3, x.typeOf(0));
    due("refused", ARGUMENT, x.typeVariable(1000));
    due("refused", INDEX, x.type(2, 0, 4));
    x.refl(0);
    x.conclusion(0);
    due("terms do not count", 4, x.type(2, 3, 0));
    due("the last handle", 5, x.type(2, 4, 4));
    due("one more", INDEX, x.type(2, 4, 6));
  }

  private void termHandles() {
    int truths = x.type(0, 0, 0);
    int one = x.type(2, truths, truths);
    due("free", 0, x.free(0, truths));
    due("the same term again", 1, x.free(0, truths));
    due("constant", 2, x.constant(0, x.type(2, truths, one)));
    due("apply", 3, x.apply(2, 0));
    due("abstraction", 4, x.abstraction(0, 3));
    x.typeOf(4);
    int a = x.assume(0);
    due("conclusion", 5, x.conclusion(a));
    due("hypothesis", 6, x.hypothesis(a, 0));
    due("refused", INDEX, x.apply(2, 7));
    due("refused", ARGUMENT, x.apply(0, 0));
    due("cut", 0, x.cut(0));
    due("a handle stays when its sequent is no more", 1, x.same(5, 6));
    due("the next one", 7, x.free(1, truths));
  }

  /** Under k and an abstraction, again and again: the free variable is bound in the last one. */
  private void boundVariables() {
    int truths = x.type(0, 0, 0);
    int one = x.type(2, truths, truths);
    int k = x.free(5, x.type(2, one, truths));
    int p = x.free(0, truths);
    int q = x.free(1, truths);
    int t = p;
    int lower = p;
    for (int depth = 1; depth <= 59; depth++) {
      t = x.apply(k, x.abstraction(q, t));
      lower = depth == 57 ? t : lower;
    }
    int bound = x.abstraction(p, t);
    due("59 lie between", 4 * 59, x.symbol(bound, 3 * 59 + 1));
    due("behind it", INDEX, x.symbol(bound, 3 * 59 + 2));
    due("none lies between", 0, x.symbol(x.abstraction(p, p), 1));
    due("one lies between", 4, x.symbol(x.abstraction(p, x.abstraction(q, p)), 2));
    int said = x.conclusion(x.beta(x.apply(x.abstraction(p, lower), q)));
    due("57 lie between, by beta", 4 * 57, x.symbol(said, 3 + 1 + 1 + 3 * 57));
    due("free again", 5, x.symbol(said, 3 + 1 + 1 + (3 * 57 + 1) + 1 + 3 * 57));
    due("behind it", INDEX, x.symbol(said, 3 + 1 + 1 + (3 * 57 + 1) + 1 + 3 * 57 + 1));
  }

  private void freeSigns() {
    int truths = x.type(0, 0, 0);
    due("0", 1, x.symbol(x.free(0, truths), 0));
    due("1", 5, x.symbol(x.free(1, truths), 0));
    due("999", 3997, x.symbol(x.free(999, truths), 0));
  }

  private void constantSigns() {
    int truths = x.type(0, 0, 0);
    int one = x.type(2, truths, truths);
    int p = x.free(0, truths);
    int id = x.abstraction(p, p);
    due("0", 2, x.symbol(x.constant(0, x.type(2, truths, one)), 0));
    due("1", 6, x.symbol(x.constant(1, x.type(2, one, truths)), 0));
    for (int c = 2; c < 200; c++) {
      x.define(id);
    }
    due("2", 10, x.symbol(x.constant(2, one), 0));
    due("199", 798, x.symbol(x.constant(199, one), 0));
    due("200", ARGUMENT, x.constant(200, one));
  }

  private void firstConstants() {
    int truths = x.type(0, 0, 0);
    int a = x.typeVariable(0);
    int sets = x.type(2, a, truths);
    due("-1", ARGUMENT, x.constant(-1, sets));
    due("equality", 0, x.constant(0, x.type(2, a, sets)));
    due("choice", 1, x.constant(1, x.type(2, sets, a)));
    due("2", ARGUMENT, x.constant(2, sets));
  }

  private void equation() {
    int truths = x.type(0, 0, 0);
    int p = x.free(0, truths);
    int q = x.free(1, truths);
    int equality = x.constant(0, x.type(2, truths, x.type(2, truths, truths)));
    int pq = x.apply(x.apply(equality, p), q);
    dueSymbols("p = q", List.of(-1, -1, 2, 1, 5), pq);
    int a = x.assume(pq);
    int b = x.assume(p);
    dueSymbols("its right side is q", List.of(5), x.conclusion(x.equal(a, b)));
    int half = x.abstraction(q, x.apply(x.apply(equality, q), p));
    int c = x.assume(x.apply(half, q));
    due("what only becomes an equation is none", ARGUMENT, x.trans(c, a));
    int free = x.free(0, x.typeOf(equality));
    int d = x.assume(x.apply(x.apply(free, p), q));
    due("a free variable is not equality", ARGUMENT, x.equal(d, b));
  }

  private void sequentNumbers() {
    int truths = x.type(0, 0, 0);
    int p = x.free(0, truths);
    due("first", 0, x.assume(p));
    due("refused", INDEX, x.assume(p + 1));
    due("second", 1, x.assume(p));
    due("cut", 0, x.cut(1));
    due("second again", 1, x.refl(p));
    due("size", 2, x.size());
    due("none", INDEX, x.hypotheses(2));
  }

  private void joined() {
    int truths = x.type(0, 0, 0);
    int[] v = new int[5];
    int[] a = new int[5];
    for (int i = 0; i < 5; i++) {
      v[i] = x.free(i, truths);
      a[i] = x.assume(v[i]);
    }
    int first = x.antisym(a[2], a[0]);
    int second = x.antisym(x.antisym(a[3], a[0]), x.antisym(a[1], a[2]));
    int all = x.antisym(first, second);
    due("how many", 4, x.hypotheses(all));
    int[] order = {2, 0, 3, 1};
    for (int i = 0; i < order.length; i++) {
      due("hypothesis " + i, 1, x.same(x.hypothesis(all, i), v[order[i]]));
    }
    due("no fifth", INDEX, x.hypothesis(all, 4));
    int none = x.refl(v[0]);
    due("none and none", 0, x.hypotheses(x.antisym(none, none)));
    due("none and two", 2, x.hypotheses(x.antisym(none, first)));
    due("two and none", 2, x.hypotheses(x.antisym(first, none)));
  }
}
