/**
 * Each exception that a promise names, on both sides of what is taken; which of two comes first;
 * and after each refused call that nothing has changed. No limit is near here.
 */
public final class RefusedTest {
  private static final int LEAST = Integer.MIN_VALUE;
  private static final int MOST = Integer.MAX_VALUE;

  private final Refusals r = new Refusals("no limit is near", b -> { });

  public static void main(String[] args) {
    RefusedTest test = new RefusedTest();
    test.typeVariable();
    test.type();
    test.free();
    test.constant();
    test.apply();
    test.abstraction();
    test.typeOfSymbolSame();
    test.refl();
    test.trans();
    test.applied();
    test.abstracted();
    test.beta();
    test.assume();
    test.equal();
    test.antisym();
    test.put();
    test.retype();
    test.define();
    test.defineType();
    test.axiom();
    test.conclusionHypothesesHypothesis();
    test.cut();
    test.cutOfDefinitions();
    test.trace();
    Check.done();
  }

  /** Numbers that are not 0 .. count - 1: the nearest ones on both sides, and the furthest. */
  private static int[] outside(int count) {
    return new int[] {-1, count, LEAST, MOST};
  }

  private static final int WAYS = outside(0).length;

  private void typeVariable() {
    for (int n : outside(1000)) {
      r.argument("2: typeVariable " + n, b -> b.x.typeVariable(n));
    }
    r.taken("2: typeVariable 0", b -> b.x.typeVariable(0));
    r.taken("2: typeVariable 999", b -> b.x.typeVariable(999));
  }

  private void type() {
    for (int i = 0; i < WAYS; i++) {
      int way = i;
      r.argument("3: no constructor, way " + i,
          b -> b.x.type(outside(b.constructors())[way], b.truths, b.truths));
      r.argument("3: no constructor comes before no types, way " + i,
          b -> b.x.type(outside(b.constructors())[way], -1, b.types()));
      r.index("3: no first type, way " + i, b -> b.x.type(2, outside(b.types())[way], b.truths));
      r.index("3: no second type, way " + i, b -> b.x.type(2, b.truths, outside(b.types())[way]));
      r.taken("3: truths, no type is looked at, way " + i,
          b -> b.x.type(0, outside(b.types())[way], outside(b.types())[way]));
      r.taken("3: things, no type is looked at, way " + i,
          b -> b.x.type(1, outside(b.types())[way], outside(b.types())[way]));
    }
    r.taken("3: the last types", b -> b.x.type(2, b.types() - 1, b.types() - 1));
    r.taken("3: the first types", b -> b.x.type(2, 0, 0));
  }

  private void free() {
    for (int n : outside(1000)) {
      r.argument("4: free " + n, b -> b.x.free(n, b.truths));
    }
    for (int i = 0; i < WAYS; i++) {
      int way = i;
      r.index("4: no type, way " + i, b -> b.x.free(0, outside(b.types())[way]));
      r.index("4: no type comes before no number, way " + i,
          b -> b.x.free(outside(1000)[way], outside(b.types())[way]));
    }
    r.taken("4: free 0", b -> b.x.free(0, b.types() - 1));
    r.taken("4: free 999", b -> b.x.free(999, 0));
  }

  private void constant() {
    for (int i = 0; i < WAYS; i++) {
      int way = i;
      r.argument("5: no constant, way " + i,
          b -> b.x.constant(outside(b.constants())[way], b.two));
      r.index("5: no type, way " + i, b -> b.x.constant(0, outside(b.types())[way]));
      r.index("5: no type comes before no constant, way " + i,
          b -> b.x.constant(outside(b.constants())[way], outside(b.types())[way]));
    }
    r.argument("5: equality does not become truths to truths", b -> b.x.constant(0, b.one));
    r.argument("5: equality does not become a variable", b -> b.x.constant(0, b.any));
    r.argument("5: choice does not become equality's type", b -> b.x.constant(1, b.two));
    r.argument("5: a constant of truths does not become things", b -> b.x.constant(2, b.things));
    r.argument("5: a constant of truths does not become 'a", b -> b.x.constant(2, b.any));
    r.taken("5: the first constant", b -> b.x.constant(0, b.two));
    r.taken("5: the last constant", b -> b.x.constant(b.constants() - 1, b.truths));
  }

  private void apply() {
    for (int i = 0; i < WAYS; i++) {
      int way = i;
      r.index("6: no f, way " + i, b -> b.x.apply(outside(b.terms())[way], b.p));
      r.index("6: no x, way " + i, b -> b.x.apply(b.f, outside(b.terms())[way]));
      r.index("6: no x comes before no function, way " + i,
          b -> b.x.apply(b.p, outside(b.terms())[way]));
    }
    r.argument("6: p p", b -> b.x.apply(b.p, b.p));
    r.argument("6: f u", b -> b.x.apply(b.f, b.u));
    r.argument("6: f f", b -> b.x.apply(b.f, b.f));
    r.argument("6: id u", b -> b.x.apply(b.id, b.u));
    r.argument("6: id id", b -> b.x.apply(b.id, b.id));
    r.argument("6: an application that is no function", b -> b.x.apply(b.fp, b.p));
    r.argument("6: a constant that is no function", b -> b.x.apply(b.c, b.p));
    r.argument("6: a variable of a type variable", b -> b.x.apply(b.u, b.u));
    r.taken("6: id p", b -> b.x.apply(b.id, b.p));
  }

  private void abstraction() {
    for (int i = 0; i < WAYS; i++) {
      int way = i;
      r.index("7: no v, way " + i, b -> b.x.abstraction(outside(b.terms())[way], b.p));
      r.index("7: no body, way " + i, b -> b.x.abstraction(b.p, outside(b.terms())[way]));
      r.index("7: no body comes before no variable, way " + i,
          b -> b.x.abstraction(b.fp, outside(b.terms())[way]));
    }
    r.argument("7: over an application", b -> b.x.abstraction(b.fp, b.fp));
    r.argument("7: over an abstraction", b -> b.x.abstraction(b.id, b.p));
    r.argument("7: over a constant", b -> b.x.abstraction(b.c, b.c));
    r.taken("7: over p", b -> b.x.abstraction(b.p, b.c));
  }

  private void typeOfSymbolSame() {
    for (int i = 0; i < WAYS; i++) {
      int way = i;
      r.index("8: no term, way " + i, b -> b.x.typeOf(outside(b.terms())[way]));
      r.index("9: no term, way " + i, b -> b.x.symbol(outside(b.terms())[way], 0));
      r.index("9: no symbol of one, way " + i, b -> b.x.symbol(b.p, outside(1)[way]));
      r.index("9: no symbol of five, way " + i, b -> b.x.symbol(b.pq, outside(5)[way]));
      r.index("10: no t, way " + i, b -> b.x.same(outside(b.terms())[way], b.p));
      r.index("10: no u, way " + i, b -> b.x.same(b.p, outside(b.terms())[way]));
    }
    r.taken("8: the last term", b -> b.x.typeOf(b.terms() - 1));
    r.taken("9: the last symbol", b -> b.x.symbol(b.pq, 4));
    r.taken("10: the first and the last", b -> b.x.same(0, b.terms() - 1));
  }

  private void refl() {
    for (int i = 0; i < WAYS; i++) {
      int way = i;
      r.index("11: no term, way " + i, b -> b.x.refl(outside(b.terms())[way]));
    }
    r.taken("11: the first term", b -> b.x.refl(0));
    r.taken("11: the last term", b -> b.x.refl(b.terms() - 1));
  }

  private void trans() {
    for (int i = 0; i < WAYS; i++) {
      int way = i;
      r.index("12: no first, way " + i, b -> b.x.trans(outside(b.sequents())[way], b.pIsP));
      r.index("12: no second, way " + i, b -> b.x.trans(b.pIsP, outside(b.sequents())[way]));
      r.index("12: no first comes before no equation, way " + i,
          b -> b.x.trans(outside(b.sequents())[way], b.supposedP));
      r.index("12: no second comes before no equation, way " + i,
          b -> b.x.trans(b.supposedP, outside(b.sequents())[way]));
    }
    r.argument("12: no equation first", b -> b.x.trans(b.supposedP, b.pIsP));
    r.argument("12: no equation second", b -> b.x.trans(b.pIsP, b.supposedP));
    r.argument("12: an application that is none", b -> b.x.trans(b.infinity, b.infinity));
    r.argument("12: a constant that is none", b -> b.x.trans(b.alone, b.alone));
    r.argument("12: not the same t", b -> b.x.trans(b.supposedPq, b.pIsP));
    r.argument("12: not t of the same type", b -> b.x.trans(b.pIsP, b.fIsF));
    r.taken("12: the same t", b -> b.x.trans(b.pIsP, b.supposedPq));
  }

  private void applied() {
    for (int i = 0; i < WAYS; i++) {
      int way = i;
      r.index("13: no first, way " + i, b -> b.x.applied(outside(b.sequents())[way], b.pIsP));
      r.index("13: no second, way " + i, b -> b.x.applied(b.fIsF, outside(b.sequents())[way]));
      r.index("13: no first comes before no equation, way " + i,
          b -> b.x.applied(outside(b.sequents())[way], b.supposedP));
      r.index("13: no second comes before no equation, way " + i,
          b -> b.x.applied(b.supposedP, outside(b.sequents())[way]));
    }
    r.argument("13: no equation first", b -> b.x.applied(b.supposedP, b.pIsP));
    r.argument("13: no equation second", b -> b.x.applied(b.fIsF, b.supposedP));
    r.argument("13: f is no function", b -> b.x.applied(b.pIsP, b.pIsP));
    r.argument("13: f is from another type", b -> b.x.applied(b.fIsF, b.fIsF));
    r.argument("13: an abstraction is from another type", b -> b.x.applied(b.idIsId, b.idIsId));
    r.taken("13: f and p", b -> b.x.applied(b.fIsF, b.pIsP));
    r.taken("13: id and p", b -> b.x.applied(b.idIsId, b.pIsP));
  }

  private void abstracted() {
    for (int i = 0; i < WAYS; i++) {
      int way = i;
      r.index("14: no v, way " + i, b -> b.x.abstracted(outside(b.terms())[way], b.pIsP));
      r.index("14: no sequent, way " + i, b -> b.x.abstracted(b.p, outside(b.sequents())[way]));
      r.index("14: no v comes before no equation, way " + i,
          b -> b.x.abstracted(outside(b.terms())[way], b.supposedP));
      r.index("14: no sequent comes before no variable, way " + i,
          b -> b.x.abstracted(b.fp, outside(b.sequents())[way]));
    }
    r.argument("14: over an application", b -> b.x.abstracted(b.fp, b.pIsP));
    r.argument("14: over an abstraction", b -> b.x.abstracted(b.id, b.pIsP));
    r.argument("14: over a constant", b -> b.x.abstracted(b.c, b.pIsP));
    r.argument("14: no equation", b -> b.x.abstracted(b.q, b.supposedP));
    r.argument("14: in the hypothesis", b -> b.x.abstracted(b.p, b.supposedPq));
    r.argument("14: in the first of two hypotheses", b -> b.x.abstracted(b.p, b.both));
    r.argument("14: in the last of two hypotheses", b -> b.x.abstracted(b.q, b.both));
    r.taken("14: in no hypothesis", b -> b.x.abstracted(b.u, b.both));
    r.taken("14: with no hypothesis", b -> b.x.abstracted(b.p, b.pIsP));
  }

  private void beta() {
    for (int i = 0; i < WAYS; i++) {
      int way = i;
      r.index("15: no term, way " + i, b -> b.x.beta(outside(b.terms())[way]));
    }
    r.argument("15: a variable", b -> b.x.beta(b.p));
    r.argument("15: a constant", b -> b.x.beta(b.c));
    r.argument("15: an abstraction", b -> b.x.beta(b.id));
    r.argument("15: an application of a variable", b -> b.x.beta(b.fp));
    r.argument("15: an application of an application", b -> b.x.beta(b.pq));
    r.argument("15: to a constant", b -> b.x.beta(b.idc));
    r.argument("15: to an application", b -> b.x.beta(b.idfp));
    r.taken("15: to a free variable", b -> b.x.beta(b.idp));
  }

  private void assume() {
    for (int i = 0; i < WAYS; i++) {
      int way = i;
      r.index("16: no term, way " + i, b -> b.x.assume(outside(b.terms())[way]));
    }
    r.argument("16: of 'a", b -> b.x.assume(b.u));
    r.argument("16: of things", b -> b.x.assume(b.thing));
    r.argument("16: a function to truths", b -> b.x.assume(b.f));
    r.argument("16: an abstraction", b -> b.x.assume(b.id));
    r.argument("16: equality", b -> b.x.assume(b.equality));
    r.taken("16: a constant of truths", b -> b.x.assume(b.c));
    r.taken("16: an application of truths", b -> b.x.assume(b.idfp));
  }

  private void equal() {
    for (int i = 0; i < WAYS; i++) {
      int way = i;
      r.index("17: no first, way " + i, b -> b.x.equal(outside(b.sequents())[way], b.supposedP));
      r.index("17: no second, way " + i, b -> b.x.equal(b.pIsP, outside(b.sequents())[way]));
      r.index("17: no second comes before no equation, way " + i,
          b -> b.x.equal(b.supposedP, outside(b.sequents())[way]));
    }
    r.argument("17: no equation", b -> b.x.equal(b.supposedP, b.supposedP));
    r.argument("17: an equation of others than truths", b -> b.x.equal(b.fIsF, b.supposedP));
    r.argument("17: the right side", b -> b.x.equal(b.supposedPq, b.supposedQ));
    r.argument("17: the other way round", b -> b.x.equal(b.supposedP, b.pIsP));
    r.taken("17: the left side", b -> b.x.equal(b.supposedPq, b.supposedP));
  }

  private void antisym() {
    for (int i = 0; i < WAYS; i++) {
      int way = i;
      r.index("18: no first, way " + i, b -> b.x.antisym(outside(b.sequents())[way], 0));
      r.index("18: no second, way " + i, b -> b.x.antisym(0, outside(b.sequents())[way]));
    }
    r.taken("18: the first and the last", b -> b.x.antisym(0, b.sequents() - 1));
  }

  private void put() {
    for (int i = 0; i < WAYS; i++) {
      int way = i;
      r.index("19: no sequent, way " + i, b -> b.x.put(outside(b.sequents())[way], b.p, b.q));
      r.index("19: no v, way " + i, b -> b.x.put(b.pIsP, outside(b.terms())[way], b.q));
      r.index("19: no t, way " + i, b -> b.x.put(b.pIsP, b.p, outside(b.terms())[way]));
      r.index("19: no sequent comes before no variable, way " + i,
          b -> b.x.put(outside(b.sequents())[way], b.fp, b.q));
      r.index("19: no t comes before no variable, way " + i,
          b -> b.x.put(b.pIsP, b.fp, outside(b.terms())[way]));
    }
    r.argument("19: for an application", b -> b.x.put(b.pIsP, b.fp, b.p));
    r.argument("19: for an abstraction", b -> b.x.put(b.fIsF, b.id, b.f));
    r.argument("19: for a constant", b -> b.x.put(b.alone, b.c, b.p));
    r.argument("19: of another type", b -> b.x.put(b.pIsP, b.p, b.u));
    r.argument("19: an abstraction for p", b -> b.x.put(b.pIsP, b.p, b.id));
    r.argument("19: p for a function", b -> b.x.put(b.fIsF, b.f, b.p));
    r.argument("19: of a type that u's could become", b -> b.x.put(b.pIsP, b.u, b.p));
    r.taken("19: an abstraction for a function", b -> b.x.put(b.fIsF, b.f, b.id));
    r.taken("19: a variable for itself", b -> b.x.put(b.pIsP, b.p, b.p));
  }

  private void retype() {
    for (int n : outside(1000)) {
      r.argument("20: n " + n, b -> b.x.retype(b.three, n, b.truths, 1, b.truths));
      r.argument("20: m " + n, b -> b.x.retype(b.three, 1, b.truths, n, b.truths));
      r.argument("20: both " + n, b -> b.x.retype(b.three, n, b.truths, n, b.truths));
      r.index("20: no t comes before n " + n, b -> b.x.retype(b.three, n, -1, 1, b.truths));
      r.index("20: no u comes before m " + n, b -> b.x.retype(b.three, 1, b.truths, n, -1));
      r.index("20: no sequent comes before n " + n, b -> b.x.retype(-1, n, 0, n, 0));
    }
    for (int i = 0; i < WAYS; i++) {
      int way = i;
      r.index("20: no sequent, way " + i,
          b -> b.x.retype(outside(b.sequents())[way], 0, b.truths, 1, b.truths));
      r.index("20: no t, way " + i,
          b -> b.x.retype(b.three, 0, outside(b.types())[way], 1, b.truths));
      r.index("20: no u, way " + i,
          b -> b.x.retype(b.three, 0, b.truths, 1, outside(b.types())[way]));
      r.index("20: no u though m is n, way " + i,
          b -> b.x.retype(b.three, 0, b.truths, 0, outside(b.types())[way]));
    }
    r.argument("20: m is n, of two types", b -> b.x.retype(b.three, 0, b.truths, 0, b.things));
    r.argument("20: so too if n is not in it", b -> b.x.retype(b.three, 9, b.any, 9, b.one));
    r.taken("20: m is n", b -> b.x.retype(b.three, 0, b.truths, 0, b.truths));
    r.taken("20: 0 and 999", b -> b.x.retype(b.three, 0, b.truths, 999, b.things));
    r.taken("20: 999 and 0", b -> b.x.retype(b.three, 999, b.truths, 0, b.things));
  }

  private void define() {
    for (int i = 0; i < WAYS; i++) {
      int way = i;
      r.index("21: no term, way " + i, b -> b.x.define(outside(b.terms())[way]));
    }
    r.argument("21: a free variable", b -> b.x.define(b.p));
    r.argument("21: a free variable on the left", b -> b.x.define(b.fp));
    r.argument("21: a free variable on the right", b -> b.x.define(b.idp));
    r.argument("21: a type variable that is not in the type", b -> b.x.define(b.hidden));
    r.taken("21: no variable at all", b -> b.x.define(b.truth));
  }

  private void defineType() {
    for (int i = 0; i < WAYS; i++) {
      int way = i;
      r.index("22: no sequent, way " + i, b -> b.x.defineType(outside(b.sequents())[way]));
    }
    r.argument("22: a hypothesis", b -> b.x.defineType(b.supposedTruth));
    r.argument("22: no application", b -> b.x.defineType(b.alone));
    r.argument("22: a free variable in P", b -> b.x.defineType(b.pIsP));
    r.argument("22: three type variables", b -> b.x.defineType(b.three));
    r.taken("22: no type variable", b -> b.x.defineType(b.idIsId));
    r.taken("22: the axiom of infinity", b -> b.x.defineType(b.infinity));
  }

  private void axiom() {
    for (int k : outside(3)) {
      r.argument("23: axiom " + k, b -> b.x.axiom(k));
    }
    r.taken("23: axiom 0", b -> b.x.axiom(0));
    r.taken("23: axiom 2", b -> b.x.axiom(2));
  }

  private void conclusionHypothesesHypothesis() {
    for (int i = 0; i < WAYS; i++) {
      int way = i;
      r.index("24: no sequent, way " + i, b -> b.x.conclusion(outside(b.sequents())[way]));
      r.index("25: no sequent, way " + i, b -> b.x.hypotheses(outside(b.sequents())[way]));
      r.index("26: no sequent, way " + i, b -> b.x.hypothesis(outside(b.sequents())[way], 0));
      r.index("26: none of none, way " + i, b -> b.x.hypothesis(b.pIsP, outside(0)[way]));
      r.index("26: none of one, way " + i, b -> b.x.hypothesis(b.supposedP, outside(1)[way]));
      r.index("26: none of two, way " + i, b -> b.x.hypothesis(b.both, outside(2)[way]));
    }
    r.taken("24: the first", b -> b.x.conclusion(0));
    r.taken("24: the last", b -> b.x.conclusion(b.sequents() - 1));
    r.taken("25: the last", b -> b.x.hypotheses(b.sequents() - 1));
    r.taken("26: the first of two", b -> b.x.hypothesis(b.both, 0));
    r.taken("26: the last of two", b -> b.x.hypothesis(b.both, 1));
  }

  private void cut() {
    for (int i = 0; i < WAYS; i++) {
      int way = i;
      r.argument("28: no such number, way " + i, b -> b.x.cut(outside(b.sequents() + 1)[way]));
    }
    r.argument("28: a definition is the first of them", b -> b.x.cut(b.definition));
    r.argument("28: a definition is among them", b -> b.x.cut(b.definition - 1));
    r.argument("28: a definition is among all", b -> b.x.cut(0));
    r.taken("28: all behind the definition", b -> b.x.cut(b.definition + 1));
    r.taken("28: none", b -> b.x.cut(b.sequents()));
  }

  private void cutOfDefinitions() {
    Refusals typed = new Refusals("a new type is the last", b -> b.x.defineType(b.idIsId));
    typed.argument("28: both of its sequents", b -> b.x.cut(b.sequents() - 2));
    typed.argument("28: its second sequent", b -> b.x.cut(b.sequents() - 1));
    typed.taken("28: none of its sequents", b -> b.x.cut(b.sequents()));
    typed.argument("3: the next constructor", b -> b.x.type(4, b.truths, b.truths));
    typed.taken("3: the new constructor", b -> b.x.type(3, -1, -1));
    typed.argument("5: the next constant", b -> b.x.constant(5, b.one));
  }

  private void trace() {
    for (int i = 0; i < WAYS; i++) {
      int way = i;
      r.index("30: no number, way " + i, b -> b.x.trace(outside(b.x.plain.traced())[way]));
    }
    r.taken("30: the first number", b -> b.x.trace(0));
    r.taken("30: the last number", b -> b.x.trace(b.x.plain.traced() - 1));
  }
}
