/**
 * "A type has at most 200 symbols and height 24, a term 4000 and 120": for each call that can pass
 * one of these, the largest that is taken, and the next one, which is refused and changes nothing.
 */
public final class SizesTest {
  private interface Making {
    int make(Bench b, Sizes s);
  }

  public static void main(String[] args) {
    typeSymbols();
    typeHeight();
    ownTypeOfAbstraction();
    typesOfRules();
    termSymbols();
    symbolsOfRules();
    symbolsOfDefinitions();
    termHeight();
    heightsOfRules();
    heightsOfDefinitions();
    Check.done();
  }

  private static Refusals state(String what, Making making) {
    return new Refusals(what, b -> {
      b.made = making.make(b, new Sizes(b));
      Check.same(what + " has been made", true, b.made >= 0);
    });
  }

  private static void taken(String what, Making making, Refusals.Call call) {
    state("just fits", making).taken(what, call);
  }

  private static void refused(String what, Making making, Refusals.Call call) {
    state("just too much", making).state(what, call);
  }

  private static void typeSymbols() {
    taken("3: 199 symbols", (b, s) -> s.type(197), b -> b.x.type(2, b.truths, b.made));
    refused("3: 201 symbols", (b, s) -> s.type(199), b -> b.x.type(2, b.truths, b.made));
    refused("3: 201 symbols", (b, s) -> s.type(199), b -> b.x.type(2, b.made, b.truths));
    taken("3: 200 symbols", (b, s) -> unaryOf(b, s.type(197)),
        b -> b.x.type(3, b.x.type(3, b.made, -1), -1));
    refused("3: 201 symbols", (b, s) -> unaryOf(b, s.type(199)), b -> b.x.type(3, b.made, -1));
  }

  /** A new constructor's type of one type, with one symbol more. */
  private static int unaryOf(Bench b, int type) {
    b.x.defineType(b.x.refl(b.x.abstraction(b.u, b.u)));
    return b.x.type(3, type, -1);
  }

  private static void typeHeight() {
    taken("3: height 24", (b, s) -> s.highType(23), b -> b.x.type(2, b.truths, b.made));
    taken("3: height 24", (b, s) -> s.highType(23), b -> b.x.type(2, b.made, b.truths));
    refused("3: height 25", (b, s) -> s.highType(24), b -> b.x.type(2, b.truths, b.made));
    refused("3: height 25", (b, s) -> s.highType(24), b -> b.x.type(2, b.made, b.truths));
  }

  private static void ownTypeOfAbstraction() {
    Making wide = (b, s) -> b.x.free(3, s.type(197));
    taken("7: of 199 symbols", wide, b -> b.x.abstraction(b.p, b.made));
    taken("7: of 199 symbols", wide, b -> b.x.abstraction(b.made, b.p));
    Making wider = (b, s) -> b.x.free(3, s.type(199));
    refused("7: of 201 symbols", wider, b -> b.x.abstraction(b.p, b.made));
    refused("7: of 201 symbols", wider, b -> b.x.abstraction(b.made, b.p));
    refused("7: of 201 symbols, its body is an abstraction",
        (b, s) -> b.x.abstraction(b.p, wide.make(b, s)), b -> b.x.abstraction(b.p, b.made));
    Making exact = (b, s) -> b.x.free(3, unaryOf(b, s.type(197)));
    taken("7: of 200 symbols", exact, b -> b.x.abstraction(b.p, b.made));
    taken("7: of 200 symbols", exact, b -> b.x.abstraction(b.made, b.p));
    Making inner = (b, s) -> b.x.abstraction(b.p, b.x.free(3, unaryOf(b, s.type(195))));
    taken("7: of 200 symbols, its body is an abstraction", inner,
        b -> b.x.abstraction(b.p, b.made));
    taken("8: of 200 symbols", (b, s) -> b.x.abstraction(b.p, exact.make(b, s)),
        b -> b.x.typeOf(b.made));
    refused("7: of 202 symbols, its body is an abstraction",
        (b, s) -> b.x.abstraction(b.p, exact.make(b, s)), b -> b.x.abstraction(b.p, b.made));
    Making high = (b, s) -> b.x.free(3, s.highType(23));
    taken("7: of height 24", high, b -> b.x.abstraction(b.p, b.made));
    taken("7: of height 24", high, b -> b.x.abstraction(b.made, b.p));
    Making higher = (b, s) -> b.x.free(3, s.highType(24));
    refused("7: of height 25", higher, b -> b.x.abstraction(b.p, b.made));
    refused("7: of height 25", higher, b -> b.x.abstraction(b.made, b.p));
    taken("8: of height 24", (b, s) -> b.x.abstraction(b.p, high.make(b, s)),
        b -> b.x.typeOf(b.made));
  }

  /** Equality of types with 97 symbols has a type of 197, of those with 99 one of 201. */
  private static void typesOfRules() {
    for (boolean byHeight : new boolean[] {false, true}) {
      String how = byHeight ? ", by height" : ", by symbols";
      Making fit = (b, s) -> byHeight ? s.highType(22) : s.type(97);
      Making next = (b, s) -> byHeight ? s.highType(23) : s.type(99);
      Making lessFit = (b, s) -> byHeight ? s.highType(21) : s.type(95);
      Making fitTerm = (b, s) -> b.x.free(3, fit.make(b, s));
      Making nextTerm = (b, s) -> b.x.free(3, next.make(b, s));
      taken("11" + how, fitTerm, b -> b.x.refl(b.made));
      taken("11: 98 symbols or height 22" + how,
          (b, s) -> b.x.free(3, byHeight ? unaryOf(b, s.highType(21)) : unaryOf(b, s.type(97))),
          b -> b.x.refl(b.made));
      refused("11" + how, nextTerm, b -> b.x.refl(b.made));
      taken("14" + how, (b, s) -> b.x.refl(b.x.free(3, lessFit.make(b, s))),
          b -> b.x.abstracted(b.p, b.made));
      refused("14" + how, (b, s) -> b.x.refl(fitTerm.make(b, s)),
          b -> b.x.abstracted(b.p, b.made));
      taken("15" + how, (b, s) -> applied(b, fitTerm.make(b, s)), b -> b.x.beta(b.made));
      refused("15" + how, (b, s) -> applied(b, nextTerm.make(b, s)), b -> b.x.beta(b.made));
      taken("20" + how, (b, s) -> someEquation(b, fit.make(b, s)),
          b -> b.x.retype(b.sequents() - 1, 0, b.made, 1, b.made));
      refused("20" + how, (b, s) -> someEquation(b, next.make(b, s)),
          b -> b.x.retype(b.sequents() - 1, 0, b.made, 1, b.made));
      taken("21" + how, (b, s) -> b.x.abstraction(b.x.free(3, lessFit.make(b, s)), b.c),
          b -> b.x.define(b.made));
      refused("21" + how, (b, s) -> b.x.abstraction(fitTerm.make(b, s), b.c),
          b -> b.x.define(b.made));
      taken("22" + how, (b, s) -> holdsOf(b, fitTerm.make(b, s)), b -> b.x.defineType(b.made));
      refused("22" + how, (b, s) -> holdsOf(b, nextTerm.make(b, s)), b -> b.x.defineType(b.made));
    }
  }

  /** (\q. t) q. */
  private static int applied(Bench b, int t) {
    return b.x.apply(b.x.abstraction(b.q, t), b.q);
  }

  /** The last sequent says u = u of 'a. */
  private static int someEquation(Bench b, int type) {
    b.x.refl(b.u);
    return type;
  }

  /** |- (\v. truth) v. */
  private static int holdsOf(Bench b, int v) {
    int t = b.x.apply(b.x.abstraction(v, b.truth), v);
    return b.x.equal(b.turned(b.x.beta(t), t), b.idIsId);
  }

  private static void termSymbols() {
    taken("6: 4000 symbols", (b, s) -> s.closedBigTerm(3998), b -> b.x.apply(b.f, b.made));
    refused("6: 4001 symbols", (b, s) -> s.closedBigTerm(3999), b -> b.x.apply(b.f, b.made));
    taken("7: 4000 symbols", (b, s) -> s.closedBigTerm(3999), b -> b.x.abstraction(b.p, b.made));
    refused("7: 4001 symbols", (b, s) -> s.closedBigTerm(4000),
        b -> b.x.abstraction(b.p, b.made));
    taken("9: symbol 3999", (b, s) -> s.closedBigTerm(4000), b -> b.x.symbol(b.made, 3999));
    state("4000 symbols", (b, s) -> s.closedBigTerm(4000)).index("9: symbol 4000",
        b -> b.x.symbol(b.made, 4000));
    taken("16: 4000 symbols", (b, s) -> s.closedBigTerm(4000), b -> b.x.assume(b.made));
  }

  private static void symbolsOfRules() {
    taken("11: 3999 symbols", (b, s) -> s.term(1998), b -> b.x.refl(b.made));
    refused("11: 4001 symbols", (b, s) -> s.term(1999), b -> b.x.refl(b.made));
    taken("12: 4000 symbols", (b, s) -> chained(b, s, 1998, 1999),
        b -> b.x.trans(b.made, b.sequents() - 1));
    refused("12: 4001 symbols", (b, s) -> chained(b, s, 1999, 1999),
        b -> b.x.trans(b.made, b.sequents() - 1));
    taken("13: 3999 symbols", (b, s) -> b.x.refl(s.term(1996)), b -> b.x.applied(b.fIsF, b.made));
    refused("13: 4001 symbols", (b, s) -> b.x.refl(s.term(1997)),
        b -> b.x.applied(b.fIsF, b.made));
    taken("13: 4000 symbols", (b, s) -> etaAnd(b, s.term(1995)),
        b -> b.x.applied(b.made, b.sequents() - 1));
    refused("13: 4002 symbols", (b, s) -> etaAnd(b, s.term(1996)),
        b -> b.x.applied(b.made, b.sequents() - 1));
    taken("14: 4000 symbols", (b, s) -> b.x.applied(etaAnd(b, s.term(1994)), b.sequents() - 1),
        b -> b.x.abstracted(b.p, b.made));
    refused("14: 4001 symbols", (b, s) -> b.x.refl(s.term(1998)),
        b -> b.x.abstracted(b.p, b.made));
    taken("15: 4000 symbols", (b, s) -> applied(b, s.term(1997)), b -> b.x.beta(b.made));
    refused("15: 4002 symbols", (b, s) -> applied(b, s.term(1998)), b -> b.x.beta(b.made));
    taken("18: 4000 symbols", (b, s) -> supposed(b, s.term(1998), s.term(1999)),
        b -> b.x.antisym(b.made, b.made + 1));
    refused("18: 4001 symbols", (b, s) -> supposed(b, s.term(1998), s.term(1999)),
        b -> b.x.antisym(b.made + 1, b.made + 1));
    taken("19: 4000 symbols", (b, s) -> grows(b, s, true), b -> b.x.put(b.made, b.q, last(b)));
    refused("19: 4001 symbols", (b, s) -> grows(b, s, false),
        b -> b.x.put(b.made, b.q, last(b)));
    taken("19: 4000 symbols of a hypothesis",
        (b, s) -> b.under(b.x.refl(b.c), grows(b, s, true)),
        b -> b.x.put(b.made, b.q, last(b)));
    refused("19: 4001 symbols of a hypothesis",
        (b, s) -> b.under(b.x.refl(b.c), grows(b, s, false)),
        b -> b.x.put(b.made, b.q, last(b)));
  }

  private static int last(Bench b) {
    return b.terms() - 1;
  }

  /** Supposed: s = y and, as the last sequent, y = u; s and u have so many symbols. */
  private static int chained(Bench b, Sizes s, int left, int right) {
    int y = b.x.free(60, b.truths);
    int first = s.supposedEquation(s.term(left), y);
    s.supposedEquation(y, s.term(right));
    return first;
  }

  /** |- (\x. g x) = g of truths to truths, and as the last sequent |- t = t. */
  private static int etaAnd(Bench b, int t) {
    int eta = b.x.retype(b.x.axiom(0), 0, b.truths, 1, b.truths);
    b.x.refl(t);
    return eta;
  }

  private static int supposed(Bench b, int t, int u) {
    int first = b.x.assume(t);
    b.x.assume(u);
    return first;
  }

  /** Supposed: a term with 4 times q in 12 or 13 symbols; the last term has 998 symbols. */
  private static int grows(Bench b, Sizes s, boolean fits) {
    int four = b.x.free(6, b.x.type(2, b.truths, b.x.type(2, b.truths, b.two)));
    int t = b.x.apply(b.x.apply(b.x.apply(b.x.apply(four, b.q), b.q), b.q), b.q);
    if (fits) {
      int k = b.x.free(7, b.x.type(2, b.one, b.truths));
      t = b.x.apply(k, b.x.abstraction(b.x.free(8, b.truths), t));
    } else {
      t = b.x.apply(b.f, b.x.apply(b.f, t));
    }
    int a = b.x.assume(t);
    s.term(998);
    return a;
  }

  private static void symbolsOfDefinitions() {
    taken("21: 4000 symbols", (b, s) -> s.closedBigTerm(3996), b -> b.x.define(b.made));
    refused("21: 4001 symbols", (b, s) -> s.closedBigTerm(3997), b -> b.x.define(b.made));
    taken("22: 4000 symbols", (b, s) -> s.dropped(s.closedBigTerm(3981)),
        b -> b.x.defineType(b.made));
    refused("22: 4001 symbols", (b, s) -> s.dropped(s.closedBigTerm(3982)),
        b -> b.x.defineType(b.made));
  }

  private static void termHeight() {
    taken("6: height 120", (b, s) -> s.highTerm(119), b -> b.x.apply(b.f, b.made));
    refused("6: height 121", (b, s) -> s.highTerm(120), b -> b.x.apply(b.f, b.made));
    taken("7: height 120", (b, s) -> s.highTerm(119), b -> b.x.abstraction(b.p, b.made));
    refused("7: height 121", (b, s) -> s.highTerm(120), b -> b.x.abstraction(b.p, b.made));
    taken("16: height 120", (b, s) -> s.highTerm(120), b -> b.x.assume(b.made));
  }

  private static void heightsOfRules() {
    taken("11: height 120", (b, s) -> s.highTerm(118), b -> b.x.refl(b.made));
    refused("11: height 121", (b, s) -> s.highTerm(119), b -> b.x.refl(b.made));
    taken("13: height 120 on the left", (b, s) -> s.supposedEquation(s.highTerm(117), b.q),
        b -> b.x.applied(b.fIsF, b.made));
    refused("13: height 121 on the left", (b, s) -> s.supposedEquation(s.highTerm(118), b.q),
        b -> b.x.applied(b.fIsF, b.made));
    taken("13: height 120 on the right", (b, s) -> s.supposedEquation(b.q, s.highTerm(118)),
        b -> b.x.applied(b.fIsF, b.made));
    refused("13: height 121 on the right", (b, s) -> s.supposedEquation(b.q, s.highTerm(119)),
        b -> b.x.applied(b.fIsF, b.made));
    taken("14: height 120 on the left", (b, s) -> s.supposedEquation(s.highTerm(117), b.q),
        b -> b.x.abstracted(b.u, b.made));
    refused("14: height 121 on the left", (b, s) -> s.supposedEquation(s.highTerm(118), b.q),
        b -> b.x.abstracted(b.u, b.made));
    taken("14: height 120 on the right", (b, s) -> s.supposedEquation(b.q, s.highTerm(118)),
        b -> b.x.abstracted(b.u, b.made));
    refused("14: height 121 on the right", (b, s) -> s.supposedEquation(b.q, s.highTerm(119)),
        b -> b.x.abstracted(b.u, b.made));
    taken("15: height 120", (b, s) -> applied(b, s.highTerm(116)), b -> b.x.beta(b.made));
    refused("15: height 121", (b, s) -> applied(b, s.highTerm(117)), b -> b.x.beta(b.made));
    taken("18: height 120 on the left", (b, s) -> b.x.assume(s.highTerm(118)),
        b -> b.x.antisym(b.made, b.supposedQ));
    refused("18: height 121 on the left", (b, s) -> b.x.assume(s.highTerm(119)),
        b -> b.x.antisym(b.made, b.supposedQ));
    taken("18: height 120 on the right", (b, s) -> b.x.assume(s.highTerm(119)),
        b -> b.x.antisym(b.supposedQ, b.made));
    refused("18: height 121 on the right", (b, s) -> b.x.assume(s.highTerm(120)),
        b -> b.x.antisym(b.supposedQ, b.made));
    taken("19: height 120", (b, s) -> s.highTerm(118), b -> b.x.put(b.pIsP, b.p, b.made));
    refused("19: height 121", (b, s) -> s.highTerm(119), b -> b.x.put(b.pIsP, b.p, b.made));
    taken("19: height 120 of a hypothesis", (b, s) -> underFq(b, s.highTerm(119)),
        b -> b.x.put(b.sequents() - 1, b.q, b.made));
    refused("19: height 121 of a hypothesis", (b, s) -> underFq(b, s.highTerm(120)),
        b -> b.x.put(b.sequents() - 1, b.q, b.made));
    taken("12: height 120", (b, s) -> s.supposedEquation(s.highTerm(118), b.p),
        b -> b.x.trans(b.made, b.pIsP));
  }

  /** The last sequent says p = p and supposes f q. */
  private static int underFq(Bench b, int t) {
    b.under(b.pIsP, b.x.assume(b.x.apply(b.f, b.q)));
    return t;
  }

  private static void heightsOfDefinitions() {
    taken("21: height 120", (b, s) -> s.closedHighTerm(119), b -> b.x.define(b.made));
    refused("21: height 121", (b, s) -> s.closedHighTerm(120), b -> b.x.define(b.made));
    taken("22: height 120", (b, s) -> s.dropped(s.closedHighTerm(115)),
        b -> b.x.defineType(b.made));
    refused("22: height 121", (b, s) -> s.dropped(s.closedHighTerm(116)),
        b -> b.x.defineType(b.made));
  }
}
