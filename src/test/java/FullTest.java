/**
 * The limits on what there is in all: what takes the last room is taken, what takes one more is
 * refused and changes nothing, and the other exceptions come before a limit.
 */
public final class FullTest {
  private interface Fill {
    void leave(Bench b, int left);
  }

  public static void main(String[] args) {
    symbolsOfSequents();
    symbolsOfTerms();
    symbolsOfTypes();
    constants();
    constructors();
    hypotheses();
    Check.done();
  }

  /** Where so many are left, the call takes them all; where one less is left, it is refused. */
  private static void needs(String what, int need, Fill fill, Refusals.Call call) {
    new Refusals(need + " left", b -> fill.leave(b, need)).taken(what, call);
    new Refusals(need + " left and taken", b -> {
      fill.leave(b, need);
      call.answer(b);
    }).state(what, call);
    new Refusals((need - 1) + " left", b -> fill.leave(b, need - 1)).state(what, call);
  }

  private static void symbolsOfSequents() {
    Fill fill = Bench::fillSequents;
    needs("11: p = p", 5, fill, b -> b.x.refl(b.p));
    needs("12: p = p", 5, fill, b -> b.x.trans(b.pIsP, b.pIsP));
    needs("12: p = q, once supposed", 10, fill, b -> b.x.trans(b.pIsP, b.supposedPq));
    needs("13: f p = f p", 9, fill, b -> b.x.applied(b.fIsF, b.pIsP));
    needs("14: id = id", 7, fill, b -> b.x.abstracted(b.p, b.pIsP));
    needs("15: id p = p", 8, fill, b -> b.x.beta(b.idp));
    needs("16: p, supposed", 2, fill, b -> b.x.assume(b.p));
    needs("17: p, supposed", 2, fill, b -> b.x.equal(b.pIsP, b.supposedP));
    needs("18: p = q, both supposed", 7, fill, b -> b.x.antisym(b.supposedP, b.supposedQ));
    needs("18: p = p", 5, fill, b -> b.x.antisym(b.supposedP, b.supposedP));
    needs("19: q = q", 5, fill, b -> b.x.put(b.pIsP, b.p, b.q));
    needs("19: p = p, once supposed", 6, fill, b -> b.x.put(b.both, b.q, b.p));
    needs("20: of three abstractions", 11, fill,
        b -> b.x.retype(b.three, 0, b.truths, 1, b.things));
    needs("21: a constant = id", 6, fill, b -> b.x.define(b.id));
    needs("22: two sequents", 27, fill, b -> b.x.defineType(b.idIsId));
    needs("23: axiom 0", 8, fill, b -> b.x.axiom(0));
    needs("23: axiom 2", 483, fill, b -> b.x.axiom(2));
    Refusals none = new Refusals("no symbol of sequents left", b -> b.fillSequents(0));
    rulesRefuseArgumentsFirst(none);
    none.taken("4: a term", b -> b.x.free(5, b.truths));
    none.taken("2: a type", b -> b.x.typeVariable(5));
    none.taken("24: a conclusion", b -> b.x.conclusion(b.sequents() - 1));
    none.taken("28: cut", b -> b.x.cut(b.sequents() - 1));
    Refusals cut = new Refusals("no symbol of sequents left, some are no more", b -> {
      b.fillSequents(0);
      b.x.cut(b.both + 1);
    });
    cut.state("16: those that are no more count, too", b -> b.x.assume(b.p));
  }

  /** In a state in which each rule passes a limit. */
  private static void rulesRefuseArgumentsFirst(Refusals r) {
    r.index("11: no term", b -> b.x.refl(b.terms()));
    r.index("12: no sequent", b -> b.x.trans(b.pIsP, b.sequents()));
    r.argument("12: no equation", b -> b.x.trans(b.supposedP, b.pIsP));
    r.argument("12: not the same t", b -> b.x.trans(b.pIsP, b.fIsF));
    r.index("13: no sequent", b -> b.x.applied(b.sequents(), b.pIsP));
    r.argument("13: no function", b -> b.x.applied(b.pIsP, b.pIsP));
    r.index("14: no term", b -> b.x.abstracted(b.terms(), b.pIsP));
    r.index("14: no sequent", b -> b.x.abstracted(b.p, b.sequents()));
    r.argument("14: no variable", b -> b.x.abstracted(b.fp, b.pIsP));
    r.argument("14: in a hypothesis", b -> b.x.abstracted(b.p, b.supposedPq));
    r.index("15: no term", b -> b.x.beta(-1));
    r.argument("15: no abstraction", b -> b.x.beta(b.fp));
    r.index("16: no term", b -> b.x.assume(-1));
    r.argument("16: not of truths", b -> b.x.assume(b.u));
    r.index("17: no sequent", b -> b.x.equal(b.pIsP, -1));
    r.argument("17: not p", b -> b.x.equal(b.pIsP, b.supposedQ));
    r.index("18: no sequent", b -> b.x.antisym(-1, 0));
    r.index("19: no sequent", b -> b.x.put(-1, b.p, b.p));
    r.index("19: no term", b -> b.x.put(b.pIsP, b.p, -1));
    r.argument("19: of another type", b -> b.x.put(b.pIsP, b.p, b.u));
    r.index("20: no type", b -> b.x.retype(b.three, 0, -1, 0, -1));
    r.argument("20: no variable", b -> b.x.retype(b.three, 1000, 0, 0, 0));
    r.argument("20: one variable of two types", b -> b.x.retype(b.three, 0, 0, 0, 1));
    r.index("21: no term", b -> b.x.define(-1));
    r.argument("21: a free variable", b -> b.x.define(b.p));
    r.argument("21: a type variable", b -> b.x.define(b.hidden));
    r.index("22: no sequent", b -> b.x.defineType(-1));
    r.argument("22: a hypothesis", b -> b.x.defineType(b.supposedTruth));
    r.argument("22: three type variables", b -> b.x.defineType(b.three));
    r.argument("23: no axiom", b -> b.x.axiom(3));
    r.argument("28: no number of sequents", b -> b.x.cut(b.sequents() + 1));
  }

  private static void symbolsOfTerms() {
    Fill fill = Bench::fillTerms;
    needs("4: a variable", 1, fill, b -> b.x.free(3, b.truths));
    needs("5: a constant", 1, fill, b -> b.x.constant(0, b.two));
    needs("6: f p", 3, fill, b -> b.x.apply(b.f, b.p));
    needs("7: id", 2, fill, b -> b.x.abstraction(b.p, b.p));
    needs("24: p = p", 5, fill, b -> b.x.conclusion(b.pIsP));
    needs("24: infinity", 483, fill, b -> b.x.conclusion(b.infinity));
    needs("26: p = q", 5, fill, b -> b.x.hypothesis(b.supposedPq, 0));
    Refusals none = new Refusals("no symbol of terms left", b -> b.fillTerms(0));
    none.index("4: no type", b -> b.x.free(3, -1));
    none.argument("4: no number", b -> b.x.free(1000, b.truths));
    none.index("5: no type", b -> b.x.constant(0, b.types()));
    none.argument("5: no constant", b -> b.x.constant(-1, b.two));
    none.argument("5: of no such type", b -> b.x.constant(0, b.one));
    none.index("6: no term", b -> b.x.apply(b.f, b.terms()));
    none.argument("6: no function", b -> b.x.apply(b.p, b.p));
    none.index("7: no term", b -> b.x.abstraction(b.p, -1));
    none.argument("7: no variable", b -> b.x.abstraction(b.fp, b.p));
    none.index("24: no sequent", b -> b.x.conclusion(b.sequents()));
    none.index("26: no sequent", b -> b.x.hypothesis(-1, 0));
    none.index("26: no hypothesis", b -> b.x.hypothesis(b.supposedP, 1));
    none.taken("3: a type", b -> b.x.type(0, 0, 0));
    none.taken("8: a term's type", b -> b.x.typeOf(b.w));
    none.taken("11: a sequent", b -> b.x.refl(b.fp));
  }

  private static void symbolsOfTypes() {
    Fill fill = Bench::fillTypes;
    needs("2: a variable", 1, fill, b -> b.x.typeVariable(0));
    needs("3: things", 1, fill, b -> b.x.type(1, 0, 0));
    needs("3: functions", 3, fill, b -> b.x.type(2, b.things, b.any));
    needs("8: p's type", 1, fill, b -> b.x.typeOf(b.p));
    needs("8: id's type", 3, fill, b -> b.x.typeOf(b.id));
    needs("8: w's type", 63, fill, b -> b.x.typeOf(b.w));
    Refusals none = new Refusals("no symbol of types left", b -> b.fillTypes(0));
    none.argument("2: no variable", b -> b.x.typeVariable(1000));
    none.argument("3: no constructor", b -> b.x.type(3, 0, 0));
    none.argument("3: no constructor, no types", b -> b.x.type(-1, -1, -1));
    none.index("3: no first type", b -> b.x.type(2, b.types(), 0));
    none.index("3: no second type", b -> b.x.type(2, 0, b.types()));
    none.index("8: no term", b -> b.x.typeOf(-1));
    none.taken("4: a term", b -> b.x.free(3, b.wide));
    none.taken("11: a sequent", b -> b.x.refl(b.fp));
    none.taken("20: retype", b -> b.x.retype(b.three, 0, b.things, 1, b.one));
  }

  private static void constants() {
    Refusals none = new Refusals("no constant left", b -> b.fillConstants(0));
    none.state("21: define", b -> b.x.define(b.id));
    none.state("22: defineType", b -> b.x.defineType(b.idIsId));
    none.argument("21: a free variable", b -> b.x.define(b.p));
    none.index("21: no term", b -> b.x.define(-1));
    none.argument("22: a hypothesis", b -> b.x.defineType(b.supposedTruth));
    none.index("22: no sequent", b -> b.x.defineType(-1));
    none.taken("5: constant 199", b -> b.x.constant(199, b.one));
    none.argument("5: constant 200", b -> b.x.constant(200, b.one));
    none.taken("11: another rule", b -> b.x.refl(b.p));
    Refusals one = new Refusals("one constant left", b -> b.fillConstants(1));
    one.taken("21: define", b -> b.x.define(b.id));
    one.state("22: defineType", b -> b.x.defineType(b.idIsId));
    Refusals two = new Refusals("two constants left", b -> b.fillConstants(2));
    two.taken("22: defineType", b -> b.x.defineType(b.idIsId));
  }

  private static void constructors() {
    Refusals none = new Refusals("no constructor left", b -> b.fillConstructors(0));
    none.state("22: defineType", b -> b.x.defineType(b.idIsId));
    none.argument("22: no application", b -> b.x.defineType(b.alone));
    none.index("22: no sequent", b -> b.x.defineType(b.sequents()));
    none.taken("3: constructor 39", b -> b.x.type(39, -1, -1));
    none.argument("3: constructor 40", b -> b.x.type(40, -1, -1));
    none.taken("21: define", b -> b.x.define(b.id));
    Refusals one = new Refusals("one constructor left", b -> b.fillConstructors(1));
    one.taken("22: defineType", b -> b.x.defineType(b.idIsId));
    one.argument("3: constructor 39", b -> b.x.type(39, -1, -1));
  }

  /** The last sequent supposes 60 variables; before it come those that suppose each of 61. */
  private static void supposeSixty(Bench b) {
    int first = b.sequents();
    for (int k = 0; k <= 60; k++) {
      b.x.assume(b.x.free(k, b.truths));
    }
    int all = first;
    for (int k = 1; k < 60; k++) {
      all = b.x.antisym(first + k, all);
    }
    Check.same("60 hypotheses", 60, b.x.hypotheses(all));
  }

  private static int last(Bench b) {
    return b.sequents() - 1;
  }

  /** The sequent of variable 60, which the last one does not suppose. */
  private static int other(Bench b) {
    return last(b) - 59;
  }

  private static void hypotheses() {
    Refusals r = new Refusals("60 hypotheses", FullTest::supposeSixty);
    r.state("18: 61, the new one last", b -> b.x.antisym(last(b), other(b)));
    r.state("18: 61, the new one first", b -> b.x.antisym(other(b), last(b)));
    r.taken("18: 60 and an old one", b -> b.x.antisym(last(b), other(b) - 1));
    r.taken("18: 60 twice", b -> b.x.antisym(last(b), last(b)));
    r.index("18: no sequent", b -> b.x.antisym(last(b), b.sequents()));
    r.taken("19: 59 are left", b -> b.x.put(last(b), b.p, b.q));
    r.taken("20: the same 60", b -> b.x.retype(last(b), 0, b.truths, 1, b.truths));
    r.argument("14: in one of them", b -> b.x.abstracted(b.p, last(b)));
    r.taken("14: in none of them", b -> b.x.abstracted(b.u, last(b)));
    Refusals equations = new Refusals("60 hypotheses of equations", FullTest::supposeEquations);
    equations.state("12: 61", b -> b.x.trans(pUnder60(b), pUnderAnother(b)));
    equations.taken("12: 60", b -> b.x.trans(pUnder60(b), b.pIsP));
    equations.argument("12: not the same t", b -> b.x.trans(last(b), pUnderAnother(b)));
    equations.state("13: 61", b -> b.x.applied(last(b), pUnderAnother(b)));
    equations.taken("13: 60", b -> b.x.applied(last(b), b.pIsP));
    equations.argument("13: no function", b -> b.x.applied(pUnder60(b), pUnderAnother(b)));
    equations.state("17: 61", b -> b.x.equal(pUnder60(b), b.supposedP));
    equations.taken("17: 60", b -> b.x.equal(pUnder59(b), b.supposedP));
    equations.argument("17: not p", b -> b.x.equal(last(b), b.supposedP));
  }

  /** p = p thrice, then f = f, under hypotheses that are not p; each takes four steps. */
  private static void supposeEquations(Bench b) {
    int most = b.x.antisym(b.supposedQ, b.x.assume(b.x.free(2, b.truths)));
    for (int k = 3; k < 60; k++) {
      most = b.x.antisym(b.x.assume(b.x.free(k, b.truths)), most);
    }
    int all = b.x.antisym(b.x.assume(b.x.free(60, b.truths)), most);
    int another = b.x.assume(b.x.free(61, b.truths));
    b.under(b.pIsP, most);
    b.under(b.pIsP, another);
    b.under(b.pIsP, all);
    b.under(b.fIsF, all);
    Check.same("59 hypotheses", 59, b.x.hypotheses(pUnder59(b)));
    Check.same("1 hypothesis", 1, b.x.hypotheses(pUnderAnother(b)));
    Check.same("60 hypotheses", 60, b.x.hypotheses(pUnder60(b)));
    Check.same("60 hypotheses", 60, b.x.hypotheses(last(b)));
  }

  private static int pUnder60(Bench b) {
    return last(b) - 4;
  }

  private static int pUnderAnother(Bench b) {
    return last(b) - 8;
  }

  private static int pUnder59(Bench b) {
    return last(b) - 12;
  }
}
