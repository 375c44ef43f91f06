import java.util.ArrayList;
import java.util.Collections;
import java.util.List;

/** Promises 21 to 23: definitions and axioms. */
public final class DefinitionsTest {
  private static final String INDEX = Check.INDEX;
  private static final String ARGUMENT = Check.ARGUMENT;

  public static void main(String[] args) {
    define();
    defineWithTypeVariables();
    defineType();
    defineTypeOfTwo();
    defineTypeRefused();
    eta();
    choice();
    infinity();
    Check.done();
  }

  private static List<Integer> said(SequentMill x, int a) {
    return TermsTest.prefix(x, x.conclusion(a));
  }

  private static void define() {
    SequentMill x = new SequentMill();
    int truths = x.type(0, 0, 0);
    int p = x.free(0, truths);
    int id = x.abstraction(p, p);
    Check.due("21: number", 0, () -> x.define(id));
    Check.same("21: c = id", List.of(-1, -1, 2, 10, -2, 0), said(x, 0));
    Check.due("21: the same term again", 1, () -> x.define(id));
    Check.same("21: the next constant", List.of(-1, -1, 2, 14, -2, 0), said(x, 1));
    Check.refused("21: a free variable", ARGUMENT, () -> x.define(p));
    Check.refused("21: a free variable inside", ARGUMENT,
        () -> x.define(x.abstraction(x.free(1, truths), p)));
    Check.refused("21: no term", INDEX, () -> x.define(99));
    Check.due("21: size", 2, () -> x.size());
    int own = x.typeOf(id);
    Check.refused("21: no constant of refused calls", ARGUMENT, () -> x.constant(4, own));
    int c = x.constant(3, own);
    Check.due("21: of a constant", 2, () -> x.define(c));
    Check.same("21: c = c", List.of(-1, -1, 2, 18, 14), said(x, 2));
  }

  private static void defineWithTypeVariables() {
    SequentMill x = new SequentMill();
    int truths = x.type(0, 0, 0);
    int a = x.typeVariable(3);
    int v = x.free(0, a);
    int id = x.abstraction(v, v);
    Check.due("21: with a type variable", 0, () -> x.define(id));
    int ofThings = x.type(2, x.type(1, 0, 0), x.type(1, 0, 0));
    Check.due("21: the constant of another type", 2, () -> x.constant(2, ofThings));
    Check.refused("21: of no such type", ARGUMENT,
        () -> x.constant(2, x.type(2, truths, x.type(1, 0, 0))));
    int said = x.conclusion(x.refl(id));
    Check.refused("21: a type variable that is not in the type", ARGUMENT, () -> x.define(said));
    int b = x.free(1, x.typeVariable(4));
    int first = x.abstraction(b, x.abstraction(v, b));
    Check.due("21: two type variables", 2, () -> x.define(first));
    int wrong = x.abstraction(x.free(2, truths), said);
    Check.refused("21: in a part of the term alone", ARGUMENT, () -> x.define(wrong));
    int unused = x.abstraction(v, x.apply(x.abstraction(b, x.abstraction(v, v)), b));
    Check.refused("21: a free variable comes in too", ARGUMENT, () -> x.define(unused));
    Check.due("21: the next sequent", 3, () -> x.refl(id));
  }

  private static void defineType() {
    SequentMill x = new SequentMill();
    int truths = x.type(0, 0, 0);
    int a = x.typeVariable(7);
    int v = x.free(0, a);
    int s = x.refl(x.abstraction(v, v));
    Check.due("22: the first one's number", 1, () -> x.defineType(s));
    Check.due("22: two sequents", 3, () -> x.size());
    Check.same("22: TO (FRO a) = a", List.of(-1, -1, 2, -1, 10, -1, 14, 1, 1), said(x, 1));
    Check.same("22: P r = (FRO (TO r) = r)",
        List.of(-1, -1, 2, -1, -1, 2, -2, 0, 1, -1, -1, 2, -1, 14, -1, 10, 1, 1), said(x, 2));
    Check.due("22: no hypotheses", 0, () -> x.hypotheses(1) + x.hypotheses(2));
    Check.due("22: the trace ends with the step", 21, () -> x.trace(x.traced() - 2));
    Check.due("22: of sequent 0", 0, () -> x.trace(x.traced() - 1));
    int old = x.type(2, a, a);
    int made = x.type(3, a, -1);
    int to = x.type(2, old, made);
    int fro = x.type(2, made, old);
    Check.refused("22: TO is not FRO", ARGUMENT, () -> x.constant(2, fro));
    Check.due("22: TO", 4, () -> x.constant(2, to));
    Check.due("22: FRO", 5, () -> x.constant(3, fro));
    int t = x.free(0, made);
    int inside = x.apply(4, x.apply(5, t));
    int equality = x.constant(0, x.type(2, made, x.type(2, made, truths)));
    int want = x.apply(x.apply(equality, inside), t);
    Check.same("22: a is free variable 0 of T", true, x.same(want, x.conclusion(1)));
  }

  private static void defineTypeOfTwo() {
    SequentMill x = new SequentMill();
    int a = x.typeVariable(9);
    int b = x.typeVariable(4);
    int v = x.free(0, a);
    int w = x.free(1, b);
    int first = x.abstraction(v, x.abstraction(w, v));
    x.defineType(x.refl(first));
    int old = x.typeOf(first);
    int rising = x.type(3, b, a);
    int falling = x.type(3, a, b);
    Check.due("22: TO, with the variables in rising order", 4,
        () -> x.constant(2, x.type(2, old, rising)));
    Check.refused("22: not as they come", ARGUMENT,
        () -> x.constant(2, x.type(2, old, falling)));
    int none = x.abstraction(x.free(0, x.type(0, 0, 0)), x.free(0, x.type(0, 0, 0)));
    x.defineType(x.refl(none));
    Check.due("22: a constructor of no types", x.typeVariable(0) + 1, () -> x.type(4, -1, -1));
    Check.refused("22: the next constructor", ARGUMENT, () -> x.type(5, -1, -1));
  }

  private static void defineTypeRefused() {
    SequentMill x = new SequentMill();
    int truths = x.type(0, 0, 0);
    int p = x.free(0, truths);
    int id = x.abstraction(p, p);
    int byRefl = x.refl(p);
    int assumed = x.assume(x.conclusion(x.refl(id)));
    Check.refused("22: a hypothesis", ARGUMENT, () -> x.defineType(assumed));
    Check.refused("22: a free variable in P", ARGUMENT, () -> x.defineType(byRefl));
    Check.refused("22: no sequent", INDEX, () -> x.defineType(99));
    Check.refused("22: below 0", INDEX, () -> x.defineType(-1));
    int u = x.free(0, x.typeVariable(0));
    int v = x.free(0, x.typeVariable(1));
    int w = x.free(0, x.typeVariable(2));
    int three = x.refl(x.abstraction(u, x.abstraction(v, x.abstraction(w, w))));
    Check.refused("22: three type variables", ARGUMENT, () -> x.defineType(three));
    // q = (id = id), made from both; then (c) a conclusion that is a constant, no application
    int c = x.define(x.conclusion(x.refl(id)));
    int constant = x.constant(2, truths);
    int turned = turned(x, c, truths, constant);
    int alone = x.equal(turned, x.refl(id));
    Check.same("22: a constant is said", List.of(10), said(x, alone));
    Check.refused("22: no application", ARGUMENT, () -> x.defineType(alone));
    int size = x.size();
    Check.refused("22: no constructor of refused calls", ARGUMENT, () -> x.type(3, 0, 0));
    Check.refused("22: no constant of refused calls", ARGUMENT, () -> x.constant(3, truths));
    Check.due("22: size", size, () -> x.size());
    int rightSide = x.equal(x.antisym(x.refl(id), x.refl(p)), x.refl(id));
    Check.due("22: a free variable in x alone", 0,
        () -> x.defineType(freeInArgument(x, id, p)) - x.size() + 2);
    Check.refused("22: P = (eq p) has one", ARGUMENT, () -> x.defineType(rightSide));
  }

  /** From c = t the sequent t = c. */
  private static int turned(SequentMill x, int a, int truths, int constant) {
    int equality = x.constant(0, x.type(2, truths, x.type(2, truths, truths)));
    int both = x.applied(x.applied(x.refl(equality), a), x.refl(constant));
    return x.equal(both, x.refl(constant));
  }

  /** |- (\p. p) = ((\q. \p. p) p), as P x with a free variable in x. */
  private static int freeInArgument(SequentMill x, int id, int p) {
    int t = x.apply(x.abstraction(p, id), p);
    int a = x.beta(t);
    int type = x.typeOf(t);
    int truths = x.type(0, 0, 0);
    int equality = x.constant(0, x.type(2, type, x.type(2, type, truths)));
    int both = x.applied(x.applied(x.refl(equality), a), x.refl(t));
    return x.equal(both, x.refl(t));
  }

  private static void eta() {
    SequentMill x = new SequentMill();
    Check.due("23: number", 0, () -> x.axiom(0));
    Check.same("23: eta", List.of(-1, -1, 2, -2, -1, 5, 0, 5), said(x, 0));
    Check.due("23: hypotheses", 0, () -> x.hypotheses(0));
    int a = x.typeVariable(0);
    int v = x.free(0, a);
    int f = x.free(1, x.type(2, a, x.typeVariable(1)));
    int left = x.abstraction(v, x.apply(f, v));
    int type = x.typeOf(f);
    int equality = x.constant(0, x.type(2, type, x.type(2, type, x.type(0, 0, 0))));
    int want = x.apply(x.apply(equality, left), f);
    Check.same("23: eta's types", true, x.same(want, x.conclusion(0)));
    Check.refused("23: 3", ARGUMENT, () -> x.axiom(3));
    Check.refused("23: -1", ARGUMENT, () -> x.axiom(-1));
    Check.due("23: the trace", 2, () -> x.traced());
    Check.due("23: the step", 22, () -> x.trace(0));
    Check.due("23: its number", 0, () -> x.trace(1));
  }

  /** What p /\ q is in prefix order. */
  private static List<Integer> and(List<Integer> p, List<Integer> q) {
    List<Integer> all = new ArrayList<>(List.of(-1, -1, 2, -2, -1, -1, 0));
    all.addAll(p);
    all.addAll(q);
    all.addAll(List.of(-2, -1, -1, 0));
    all.addAll(TRUTH);
    all.addAll(TRUTH);
    return all;
  }

  private static final List<Integer> TRUTH = List.of(-1, -1, 2, -2, 0, -2, 0);

  private static void choice() {
    SequentMill x = new SequentMill();
    Check.due("23: number", 0, () -> x.axiom(1));
    List<Integer> want = new ArrayList<>(List.of(-1, -1, 2));
    List<Integer> px = List.of(-1, 5, 1);
    want.addAll(and(px, List.of(-1, 5, -1, 6, 5)));
    want.addAll(px);
    Check.same("23: P x ==> P (choice P)", want, said(x, 0));
    Check.due("23: hypotheses", 0, () -> x.hypotheses(0));
    int v = x.free(0, x.typeVariable(0));
    int set = x.free(1, x.type(2, 0, x.type(0, 0, 0)));
    int other = x.free(2, 0);
    Check.same("23: x is of 'a", false, x.same(x.conclusion(x.put(0, v, other)), 0));
    int other2 = x.free(2, 2);
    Check.same("23: P is of 'a to truths", false, x.same(x.conclusion(x.put(0, set, other2)), 0));
  }

  private static void infinity() {
    SequentMill x = new SequentMill();
    Check.due("23: number", 0, () -> x.axiom(2));
    List<Integer> got = said(x, 0);
    Check.same("23: infinity's symbols", 483, got.size());
    // ? f. q is (\f. q) (choice (\f. q))
    List<Integer> f = got.subList(1, 241);
    Check.same("23: the set of f", -2, f.get(0));
    Check.same("23: its choice", List.of(-1, 6), got.subList(241, 243));
    Check.same("23: the set of f again", f, got.subList(243, 483));
    // under the f of /\: ! x. ! y. .. with f two abstractions further out than in q
    List<Integer> alike = List.of(-1, -1, 2, -1, 12, 8, -1, 12, 4);
    List<Integer> same = List.of(-1, -1, 2, 8, 4);
    List<Integer> outer = List.of(-1, -1, 2, -1, 12, 4, -1, 12, 0);
    Check.same("23: f x = f y where it stands alone", true, indexOf(got, outer) > 0);
    Check.same("23: f x = f y under one more", true,
        indexOf(got, List.of(-1, -1, 2, -1, 16, 8, -1, 16, 4)) > 0);
    Check.same("23: x = y under one more", true, indexOf(got, same) > 0);
    Check.same("23: not by another depth", -1, indexOf(got, alike));
    // ? y. ! x. not (y = f x), under the f of /\
    Check.same("23: y = f x where it stands alone", true,
        indexOf(got, List.of(-1, -1, 2, 4, -1, 12, 0)) > 0);
    Check.same("23: y = f x under one more", true,
        indexOf(got, List.of(-1, -1, 2, 8, -1, 16, 4)) > 0);
    Check.due("23: hypotheses", 0, () -> x.hypotheses(0));
    SequentMill y = new SequentMill();
    y.axiom(2);
    int things = y.type(1, 0, 0);
    int set = y.type(2, y.type(2, things, things), y.type(0, 0, 0));
    y.defineType(0);
    int to = y.type(2, y.type(2, things, things), y.type(3, 0, 0));
    Check.due("23: it says something of things to things", 0, () -> y.constant(2, to));
    Check.due("23: and of no other type", 1, () -> y.free(0, set));
  }

  private static int indexOf(List<Integer> all, List<Integer> part) {
    return Collections.indexOfSubList(all, part);
  }
}
