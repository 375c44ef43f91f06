import java.util.ArrayList;
import java.util.List;

/** The sentences of THE TRACE, and of promises 27 to 30, that name an edge. */
final class TraceSentences {
  private static final int INDEX = Twin.INDEX;
  private static final int ARGUMENT = Twin.ARGUMENT;

  private interface Sentence {
    void hold(TraceSentences t);
  }

  private final String sentence;
  private final Twin x;
  private final int truths;
  private final int one;
  private final int p;
  private final int q;

  private TraceSentences(String sentence) {
    this.sentence = sentence;
    x = new Twin(sentence);
    truths = x.type(0, 0, 0);
    one = x.type(2, truths, truths);
    p = x.free(0, truths);
    q = x.free(1, truths);
  }

  static void main() {
    holds("0 n: a type variable", TraceSentences::typeVariables);
    holds("1 c and the types that it takes", TraceSentences::constructors);
    holds("2 n a, 3 c a, 4 f x, 5 a b, 6 i a", TraceSentences::terms);
    holds("types are numbered as they come, terms too", TraceSentences::numbered);
    holds("10 + rule and what the call names, in its order", TraceSentences::steps);
    holds("of 9: the sequent, 1 or 2, each variable and its type", TraceSentences::retype);
    holds("before a step stand entries that there are none of yet", TraceSentences::entries);
    holds("the same type or term has one entry", TraceSentences::oneEntry);
    holds("types and terms that no step names have none", TraceSentences::noEntry);
    holds("first those that it takes: the highest type, to the left", TraceSentences::highType);
    holds("then its parts: the highest term, to the left", TraceSentences::highTerm);
    holds("how many sequents there are", TraceSentences::size);
    holds("sequents from n on are no more", TraceSentences::cut);
    holds("the trace is as it was before the first of them", TraceSentences::cutTrace);
    holds("n is 0 .. their number", TraceSentences::cutEdges);
    holds("one of them is of rule 10 or 11", TraceSentences::cutDefinitions);
    holds("how many numbers the trace has, number i of it", TraceSentences::numbers);
  }

  private static void holds(String name, Sentence sentence) {
    TraceSentences made = new TraceSentences(name);
    sentence.hold(made);
    made.x.keptToCalls();
  }

  private void due(String what, int want, int got) {
    Check.same(sentence + ": " + what, want, got);
  }

  private List<Integer> traceFrom(int from) {
    List<Integer> all = new ArrayList<>();
    int traced = x.traced();
    for (int i = from; i < traced; i++) {
      all.add(x.trace(i));
    }
    return all;
  }

  /** What the call puts into the trace. */
  private void writes(String what, List<Integer> due, Check.Call call) {
    int before = x.plain.traced();
    Check.same(sentence + ": " + what + " is taken", true, call.answer() >= 0);
    Check.same(sentence + ": " + what, due, traceFrom(before));
  }

  private void typeVariables() {
    int first = x.free(0, x.typeVariable(0));
    int last = x.free(0, x.typeVariable(999));
    writes("0", List.of(0, 0, 2, 0, 0, 10, 0), () -> x.refl(first));
    writes("999", List.of(0, 999, 2, 0, 1, 10, 1), () -> x.refl(last));
  }

  private void constructors() {
    int things = x.type(1, 0, 0);
    int v = x.free(0, x.type(2, things, one));
    writes("none, none and two", List.of(1, 1, 1, 0, 1, 2, 1, 1, 1, 2, 0, 2, 2, 0, 3, 10, 0),
        () -> x.refl(v));
    int u = x.free(0, x.typeVariable(5));
    int a = x.refl(x.abstraction(p, p));
    int b = x.refl(x.abstraction(u, u));
    x.defineType(a);
    x.defineType(b);
    int s = x.free(0, x.type(3, 0, 0));
    int t = x.free(0, x.type(4, things, 0));
    writes("a new one of none", List.of(1, 3, 2, 0, 5, 10, 5), () -> x.refl(s));
    writes("a new one of one", List.of(1, 4, 0, 2, 0, 6, 10, 6), () -> x.refl(t));
  }

  private void terms() {
    int f = x.free(999, one);
    writes("free", List.of(1, 0, 1, 2, 0, 0, 2, 999, 1, 10, 0), () -> x.refl(f));
    int c = x.constant(0, x.type(2, truths, one));
    writes("a constant", List.of(1, 2, 0, 1, 3, 0, 2, 10, 1), () -> x.refl(c));
    int fp = x.apply(f, p);
    writes("an application, which names no type", List.of(2, 0, 0, 4, 0, 2, 10, 3),
        () -> x.refl(fp));
    int inner = x.abstraction(p, fp);
    writes("an abstraction and a bound variable", List.of(6, 0, 0, 4, 0, 4, 5, 0, 5, 10, 6),
        () -> x.refl(inner));
    int outer = x.abstraction(p, x.abstraction(q, fp));
    writes("one abstraction further out", List.of(6, 1, 0, 4, 0, 7, 5, 0, 8, 5, 0, 9, 10, 10),
        () -> x.refl(outer));
  }

  private void numbered() {
    int things = x.type(1, 0, 0);
    int t = x.free(7, things);
    int k = x.abstraction(t, x.abstraction(p, t));
    // things, truths; the bound variable (one further out), the inner and the outer abstraction
    writes("an abstraction's type comes before its body",
        List.of(1, 1, 1, 0, 6, 1, 0, 5, 1, 0, 5, 0, 1, 10, 2), () -> x.refl(k));
    int g = x.free(3, x.type(2, truths, things));
    writes("f comes before x", List.of(1, 2, 1, 0, 2, 3, 2, 2, 0, 1, 4, 3, 4, 10, 5),
        () -> x.refl(x.apply(g, p)));
  }

  private void steps() {
    int id = x.abstraction(p, p);
    int f = x.free(0, one);
    writes("refl p", List.of(1, 0, 2, 0, 0, 10, 0), () -> x.refl(p));
    writes("trans", List.of(11, 0, 0), () -> x.trans(0, 0));
    writes("refl f", List.of(1, 2, 0, 0, 2, 0, 1, 10, 1), () -> x.refl(f));
    writes("applied", List.of(12, 2, 0), () -> x.applied(2, 0));
    writes("abstracted", List.of(2, 1, 0, 13, 2, 0), () -> x.abstracted(q, 0));
    writes("beta", List.of(6, 0, 0, 5, 0, 3, 4, 4, 0, 14, 5), () -> x.beta(x.apply(id, p)));
    writes("assume", List.of(15, 2), () -> x.assume(q));
    writes("antisym", List.of(17, 6, 6), () -> x.antisym(6, 6));
    writes("equal", List.of(16, 7, 6), () -> x.equal(7, 6));
    writes("put", List.of(18, 0, 0, 2), () -> x.put(0, p, q));
    writes("define", List.of(20, 4), () -> x.define(id));
    writes("refl id", List.of(10, 4), () -> x.refl(id));
    writes("defineType", List.of(21, 11), () -> x.defineType(11));
    writes("axiom 0", List.of(22, 0), () -> x.axiom(0));
    writes("axiom 2", List.of(22, 2), () -> x.axiom(2));
    due("size", 16, x.size());
  }

  private void retype() {
    int a = x.typeVariable(0);
    int b = x.typeVariable(999);
    int s = x.refl(x.free(0, a));
    writes("one variable", List.of(1, 0, 19, 0, 1, 0, 1), () -> x.retype(s, 0, truths, 0, truths));
    writes("two variables", List.of(0, 999, 1, 2, 1, 1, 19, 0, 2, 999, 2, 0, 3),
        () -> x.retype(s, 999, b, 0, one));
    writes("two variables of one type", List.of(19, 0, 2, 0, 1, 1, 1),
        () -> x.retype(s, 0, truths, 1, truths));
    writes("one that is not in it", List.of(19, 0, 1, 5, 1),
        () -> x.retype(s, 5, truths, 5, truths));
  }

  private void entries() {
    int a = x.axiom(0);
    writes("put: the variable's, then the term's", List.of(1, 0, 2, 0, 0, 2, 1, 0, 18, 0, 0, 1),
        () -> x.put(a, p, q));
    x.cut(1);
    writes("put the other way round", List.of(1, 0, 2, 1, 0, 2, 0, 0, 18, 0, 0, 1),
        () -> x.put(a, q, p));
    x.cut(1);
    int b = x.typeVariable(4);
    writes("retype: the first type's, then the second's",
        List.of(0, 4, 1, 0, 19, 0, 2, 8, 0, 9, 1), () -> x.retype(a, 8, b, 9, truths));
    x.cut(1);
    writes("retype the other way round",
        List.of(1, 0, 0, 4, 19, 0, 2, 9, 0, 8, 1), () -> x.retype(a, 9, truths, 8, b));
    x.cut(1);
    x.refl(q);
    writes("only the variable's", List.of(2, 0, 0, 18, 0, 1, 0), () -> x.put(a, p, q));
    x.cut(2);
    writes("only the term's", List.of(2, 0, 0, 18, 0, 0, 1), () -> x.put(a, q, p));
    writes("none", List.of(18, 0, 0, 1), () -> x.put(a, q, p));
  }

  private void oneEntry() {
    int other = x.free(0, truths);
    x.refl(p);
    writes("by another handle", List.of(10, 0), () -> x.refl(other));
    int id = x.abstraction(p, p);
    writes("an abstraction", List.of(6, 0, 0, 5, 0, 1, 10, 2), () -> x.refl(id));
    int renamed = x.abstraction(q, q);
    writes("with another name", List.of(10, 2), () -> x.refl(renamed));
    writes("a part of it", List.of(4, 2, 0, 14, 3), () -> x.beta(x.apply(renamed, other)));
    int twice = x.free(5, x.type(2, truths, x.type(2, truths, truths)));
    int both = x.apply(x.apply(twice, q), q);
    writes("what it has twice", List.of(1, 2, 0, 0, 1, 2, 0, 1, 2, 5, 2, 2, 1, 0, 4, 4, 5, 4, 6, 5,
        10, 7), () -> x.refl(both));
  }

  private void noEntry() {
    x.axiom(1);
    writes("terms of a sequent have none", List.of(1, 0, 2, 0, 0, 10, 0), () -> x.refl(p));
    x.conclusion(0);
    due("handles write nothing", 9, x.traced());
    writes("none of the terms that a sequent has", List.of(17, 0, 0), () -> x.antisym(0, 0));
  }

  /** (((a to truths) to truths) .. to truths), 24 high, as a part and as what is named. */
  private void highType() {
    int high = x.typeVariable(0);
    int below = high;
    for (int h = 2; h <= 24; h++) {
      below = high;
      high = x.type(2, high, truths);
    }
    int sequent = x.assume(x.apply(x.free(0, high), x.free(1, below)));
    // a, truths, 23 types of functions; f, x, f x; the step
    due("numbers", 2 + 2 + 23 * 4 + 3 * 3 + 2, x.traced());
    due("put in", sequent + 1, x.retype(sequent, 0, truths, 1, truths));
    x.cut(0);
    x.retype(x.axiom(0), 5, high, 5, high);
    due("numbers, where a step names the type", 2 + 2 + 2 + 23 * 4 + 5, x.traced());
  }

  /** f ((\q. (\q. .. p) p) p), 120 high. */
  private void highTerm() {
    int high = p;
    for (int h = 2; h < 119; h += 2) {
      high = x.apply(x.abstraction(q, high), p);
    }
    int top = x.apply(x.free(0, one), high);
    due("height", 120, x.plain.termHandles.get(top).height());
    int sequent = x.assume(top);
    // truths and its functions; f, p and each part; the step
    due("numbers", 2 + 4 + 3 * (2 + 2 * 59 + 1) + 2, x.traced());
    due("put in", sequent + 1, x.put(sequent, p, q));
    int bound = x.abstraction(p, high);
    due("the deepest is bound at the end", 4 * 59, x.symbol(bound, 119));
  }

  private void size() {
    due("none", 0, x.size());
    x.refl(p);
    due("one", 1, x.size());
    due("refused", INDEX, x.refl(99));
    due("still one", 1, x.size());
    x.define(x.abstraction(p, p));
    due("two", 2, x.size());
    x.defineType(x.refl(x.abstraction(p, p)));
    due("a new type makes two", 5, x.size());
    x.cut(5);
    due("none is cut off", 5, x.size());
  }

  private void cut() {
    int a = x.assume(p);
    int b = x.antisym(a, x.assume(q));
    due("size", 3, x.size());
    due("cut", 0, x.cut(1));
    due("size", 1, x.size());
    due("the first stays", 1, x.hypotheses(a));
    due("conclusion", INDEX, x.conclusion(1));
    due("hypotheses", INDEX, x.hypotheses(b));
    due("hypothesis", INDEX, x.hypothesis(1, 0));
    due("trans", INDEX, x.trans(1, 1));
    due("applied", INDEX, x.applied(1, 1));
    due("abstracted", INDEX, x.abstracted(p, 1));
    due("equal", INDEX, x.equal(1, 0));
    due("antisym", INDEX, x.antisym(0, 1));
    due("put", INDEX, x.put(1, p, q));
    due("retype", INDEX, x.retype(1, 0, 0, 0, 0));
    due("defineType", INDEX, x.defineType(1));
    due("the next number", 1, x.refl(q));
    due("has no hypotheses", 0, x.hypotheses(1));
    due("cut all", 0, x.cut(0));
    due("size", 0, x.size());
    due("the first number", 0, x.assume(q));
    due("has one hypothesis", 1, x.hypotheses(0));
  }

  /** For each n: cut at n, and the trace is as it was when there were n sequents. */
  private void cutTrace() {
    List<List<Integer>> before = new ArrayList<>();
    int f = x.free(0, one);
    int fp = x.apply(f, p);
    int id = x.abstraction(p, p);
    Check.Call[] calls = {() -> x.refl(p), () -> x.assume(fp), () -> x.axiom(2),
      () -> x.beta(x.apply(id, q)), () -> x.retype(0, 3, one, 3, one), () -> x.put(0, p, fp)};
    for (Check.Call call : calls) {
      before.add(traceFrom(0));
      call.answer();
    }
    for (int n = calls.length - 1; n >= 0; n--) {
      due("cut at " + n, 0, x.cut(n));
      Check.same(sentence + ": at " + n, before.get(n), traceFrom(0));
    }
    for (int n = 0; n < calls.length - 1; n++) {
      Check.same(sentence + ": again at " + n, before.get(n), traceFrom(0));
      due("the same step again", n, calls[n].answer());
    }
    due("cut many", 0, x.cut(1));
    Check.same(sentence + ": at 1", before.get(1), traceFrom(0));
  }

  private void cutEdges() {
    due("none of none", 0, x.cut(0));
    due("one of none", ARGUMENT, x.cut(1));
    due("-1 of none", ARGUMENT, x.cut(-1));
    x.refl(p);
    x.refl(q);
    due("-1", ARGUMENT, x.cut(-1));
    due("3 of 2", ARGUMENT, x.cut(3));
    due("the largest", ARGUMENT, x.cut(Integer.MAX_VALUE));
    due("the least", ARGUMENT, x.cut(Integer.MIN_VALUE));
    due("size", 2, x.size());
    int traced = x.traced();
    due("2 of 2", 0, x.cut(2));
    due("size", 2, x.size());
    due("the trace stays", traced, x.traced());
    due("1 of 2", 0, x.cut(1));
    due("size", 1, x.size());
    due("2 of 1", ARGUMENT, x.cut(2));
    due("0 of 1", 0, x.cut(0));
    due("size", 0, x.size());
    due("the trace", 0, x.traced());
  }

  private void cutDefinitions() {
    int id = x.abstraction(p, p);
    int a = x.refl(id);
    x.define(id);
    due("the definition is the last", ARGUMENT, x.cut(1));
    due("one before it", ARGUMENT, x.cut(0));
    due("none", 0, x.cut(2));
    x.refl(q);
    due("the definition is the last but one", ARGUMENT, x.cut(1));
    due("behind it", 0, x.cut(2));
    x.defineType(a);
    due("both of a new type's", ARGUMENT, x.cut(2));
    due("the second of a new type's", ARGUMENT, x.cut(3));
    due("none", 0, x.cut(4));
    int traced = x.traced();
    x.refl(q);
    x.assume(q);
    due("behind them", 0, x.cut(4));
    due("the trace", traced, x.traced());
    due("size", 4, x.size());
    due("the constant stays", x.plain.termHandles.size(), x.constant(2, one));
    due("the constructor stays", x.plain.typeHandles.size(), x.type(3, 0, 0));
  }

  private void numbers() {
    due("none", 0, x.traced());
    due("no first", INDEX, x.trace(0));
    x.axiom(0);
    due("two", 2, x.traced());
    due("the first", 22, x.trace(0));
    due("the last", 0, x.trace(1));
    due("behind the last", INDEX, x.trace(2));
    due("-1", INDEX, x.trace(-1));
    due("the largest", INDEX, x.trace(Integer.MAX_VALUE));
    due("the least", INDEX, x.trace(Integer.MIN_VALUE));
    due("refused", ARGUMENT, x.axiom(3));
    due("still two", 2, x.traced());
    x.cut(0);
    due("none again", INDEX, x.trace(0));
  }
}
