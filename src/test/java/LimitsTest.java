import java.util.HashMap;
import java.util.Map;

/** Each limit of the document: what just keeps it is fine, what passes it is refused. */
public final class LimitsTest {
  private final Twin x;
  private final int truths;
  private final int v;
  private final Map<Integer, Integer> sized = new HashMap<>();

  private LimitsTest(String name) {
    x = new Twin(name);
    truths = x.type(0, 0, 0);
    v = x.free(0, truths);
  }

  public static void main(String[] args) {
    run("type symbols", LimitsTest::typeSymbols);
    run("type height", LimitsTest::typeHeight);
    run("an abstraction's type", LimitsTest::abstractionType);
    run("an abstraction's type, retyped", LimitsTest::abstractionRetyped);
    run("an equation's type", LimitsTest::equationType);
    run("term symbols", LimitsTest::termSymbols);
    run("term height", LimitsTest::termHeight);
    run("hypotheses", LimitsTest::hypotheses);
    run("symbols of sequents", LimitsTest::sequentSymbols);
    run("symbols of sequents, one left", LimitsTest::sequentSymbolsButOne);
    run("symbols of sequents, refused again and again", LimitsTest::manyRefused);
    run("symbols of terms", LimitsTest::termHandleSymbols);
    run("symbols of types", LimitsTest::typeHandleSymbols);
    run("constants", LimitsTest::constants);
    run("constructors", LimitsTest::constructors);
    Check.done();
  }

  private interface Test {
    void run(LimitsTest test);
  }

  private static void run(String name, Test test) {
    LimitsTest made = new LimitsTest(name);
    test.run(made);
    made.x.keptToCalls();
  }

  private void due(String what, int want, int got) {
    Check.same(x.name + ": " + what, want, got);
  }

  private void fine(String what, int got) {
    Check.same(x.name + ": " + what + " is fine", true, got >= 0);
  }

  private void refused(String what, int got) {
    due(what + " is refused", Twin.STATE, got);
    x.compareAll();
  }

  private int fn(int a, int b) {
    return x.type(2, a, b);
  }

  /** A constructor that takes one type, made from |- (\x. x) = (\x. x) over type variable 0. */
  private int unaryConstructor() {
    int a = x.free(0, x.typeVariable(0));
    x.defineType(x.refl(x.abstraction(a, a)));
    return x.plain.constructors.size() - 1;
  }

  /** A type with 199 symbols, of low height. */
  private int type199() {
    int t = truths;
    int t7 = truths;
    int t63 = truths;
    for (int s = 1; s < 127; s = 2 * s + 1) {
      t = fn(t, t);
      t7 = s == 3 ? t : t7;
      t63 = s == 31 ? t : t63;
    }
    return fn(t, fn(t63, t7));
  }

  private void typeSymbols() {
    int unary = unaryConstructor();
    int t199 = type199();
    due("symbols", 199, x.plain.typeHandles.get(t199).symbols());
    refused("201 symbols", fn(t199, truths));
    int t200 = x.type(unary, t199, -5);
    fine("200 symbols", t200);
    refused("201 symbols", x.type(unary, t200, 0));
  }

  private void typeHeight() {
    int t = truths;
    for (int height = 2; height <= 24; height++) {
      t = fn(truths, t);
      fine("height " + height, t);
    }
    refused("height 25", fn(truths, t));
    refused("height 25", fn(t, truths));
    fine("a variable of height 24", x.free(0, t));
  }

  private void abstractionType() {
    int t127 = truths;
    for (int s = 1; s < 127; s = 2 * s + 1) {
      t127 = fn(t127, t127);
    }
    int t71 = fn(x.plain.typeHandles.size() - 2, fn(fn(truths, truths), fn(truths, truths)));
    due("symbols", 71, x.plain.typeHandles.get(t71).symbols());
    int t73 = fn(truths, t71);
    int bound = x.free(1, t127);
    int fits = x.abstraction(bound, x.free(2, t71));
    fine("an abstraction with a type of 199 symbols", fits);
    refused("one of 201", x.abstraction(bound, x.free(2, t73)));
    refused("one of 201, with two variables", x.abstraction(v, fits));
    int t = truths;
    for (int height = 2; height <= 23; height++) {
      t = fn(truths, t);
    }
    int high = x.abstraction(x.free(3, t), v);
    fine("an abstraction with a type of height 24", high);
    refused("one of height 25", x.abstraction(v, high));
    int chain = v;
    for (int height = 2; height <= 24; height++) {
      chain = x.abstraction(v, chain);
      fine("abstractions, type of height " + height, chain);
    }
    refused("abstractions, type of height 25", x.abstraction(v, chain));
    fine("typeOf", x.typeOf(chain));
  }

  /** The abstraction's type gets too large, though neither its variable's nor its body's does. */
  private void abstractionRetyped() {
    int a = x.typeVariable(0);
    int two = fn(a, a);
    int w = x.free(1, two);
    int body = x.apply(x.free(2, fn(two, truths)), w);
    int p = x.apply(x.abstraction(x.free(3, two), body), w);
    int s = x.assume(p);
    int t31 = truths;
    for (int k = 1; k < 31; k = 2 * k + 1) {
      t31 = fn(t31, t31);
    }
    fine("a type of 31 symbols", x.retype(s, 0, t31, 0, t31));
    int t97 = fn(fn(t31, t31), fn(t31, truths));
    due("symbols", 97, x.plain.typeHandles.get(t97).symbols());
    fine("197 symbols from 98", x.retype(s, 0, t97, 0, t97));
    refused("over 200", x.retype(s, 0, fn(truths, t97), 0, x.plain.typeHandles.size() - 1));
    int id = x.abstraction(x.free(4, a), x.abstraction(x.free(5, a), x.free(6, a)));
    int use = x.apply(x.free(7, fn(x.typeOf(id), truths)), id);
    int t65 = fn(fn(t31, t31), truths);
    due("symbols", 65, x.plain.typeHandles.get(t65).symbols());
    int s2 = x.assume(use);
    refused("three times 65", x.retype(s2, 0, fn(truths, t65), 1, t65));
    fine("three times 65, and five", x.retype(s2, 0, t31, 1, t65));
  }

  private void equationType() {
    int t31 = truths;
    for (int k = 1; k < 31; k = 2 * k + 1) {
      t31 = fn(t31, t31);
    }
    int t97 = fn(fn(t31, t31), fn(t31, truths));
    fine("197 symbols", x.refl(x.free(1, t97)));
    refused("201 symbols", x.refl(x.free(1, fn(t97, truths))));
    int t = truths;
    for (int height = 2; height <= 22; height++) {
      t = fn(truths, t);
    }
    fine("height 24", x.refl(x.free(1, t)));
    refused("height 25", x.refl(x.free(1, fn(truths, t))));
  }

  /** A term of truths with so many symbols (not 2), of low height, with v in it. */
  private int sized(int n) {
    if (n == 1) {
      return v;
    }
    Integer known = sized.get(n);
    if (known != null) {
      return known;
    }
    int one = fn(truths, truths);
    int made;
    if (n == 4) {
      int k = x.free(2, fn(one, truths));
      made = x.apply(k, x.abstraction(x.free(3, truths), v));
    } else if (n < 9) {
      made = x.apply(x.free(4, one), sized(n - 2));
    } else {
      int a = (n - 3) / 2;
      int half = x.apply(x.free(5, fn(truths, one)), sized(a));
      made = x.apply(half, sized(n - 3 - a));
    }
    due("symbols", n, x.plain.termHandles.get(made).symbols());
    sized.put(n, made);
    return made;
  }

  private void termSymbols() {
    int w = x.free(9, truths);
    int one = fn(truths, truths);
    int four = x.free(6, fn(truths, fn(truths, fn(truths, one))));
    int p9 = x.apply(x.apply(x.apply(x.apply(four, w), w), w), w);
    int p12 = x.apply(x.free(7, fn(one, truths)), x.abstraction(x.free(3, truths), p9));
    int p13 = x.apply(x.free(8, one), x.apply(x.free(8, one), p9));
    int s12 = x.assume(p12);
    int s13 = x.assume(p13);
    int t998 = sized(998);
    refused("4001 symbols", x.put(s13, w, t998));
    int s4000 = x.put(s12, w, t998);
    fine("4000 symbols", s4000);
    int t4000 = x.conclusion(s4000);
    due("symbols", 4000, x.plain.termHandles.get(t4000).symbols());
    refused("4001 symbols", x.abstraction(w, t4000));
    refused("4002 symbols", x.apply(x.free(8, one), t4000));
    int t1999 = sized(1999);
    refused("4001 symbols", x.refl(t1999));
  }

  private void termHeight() {
    int g = x.free(1, fn(truths, truths));
    int t = v;
    for (int height = 2; height <= 120; height++) {
      t = x.apply(g, t);
      fine("height " + height, t);
    }
    refused("height 121", x.apply(g, t));
    refused("height 121", x.abstraction(v, t));
    refused("height 121", x.refl(t));
    fine("height 120 as left side", x.refl(t - 2));
    fine("no higher by a step", x.put(x.assume(t - 1), v, v));
    refused("height 121", x.put(x.assume(t - 1), v, t - 117));
    x.compareAll();
  }

  private void hypotheses() {
    int[] assumed = new int[62];
    for (int k = 1; k <= 61; k++) {
      assumed[k] = x.assume(x.free(k, truths));
    }
    int s = assumed[1];
    for (int k = 2; k <= 60; k++) {
      s = x.antisym(assumed[k], s);
    }
    due("hypotheses", 60, x.hypotheses(s));
    refused("61 hypotheses", x.antisym(s, assumed[61]));
    refused("61 hypotheses", x.antisym(assumed[61], s));
    fine("60 again", x.antisym(s, assumed[60]));
    fine("60 with itself", x.antisym(s, s));
    int q61 = x.plain.termHandles.size() - 1;
    fine("60 with another", x.put(s, q61 - 30, q61));
  }

  private void sequentSymbols() {
    for (int k = 0; k < 41; k++) {
      due("axiom 2", k, x.axiom(2));
    }
    due("a sequent's symbols", 483, x.plain.sequents.get(0).symbols());
    refused("too many symbols", x.axiom(2));
    for (int k = 0; k < 39; k++) {
      fine("refl", x.refl(v));
    }
    refused("5 symbols where 2 are left", x.refl(v));
    fine("2 symbols where 2 are left", x.assume(v));
    refused("2 symbols where none is left", x.assume(v));
    due("cut", 0, x.cut(3));
    refused("2 symbols after a cut", x.assume(v));
    refused("a definition", x.define(x.abstraction(v, v)));
    refused("a new type", x.defineType(0));
    fine("a term", x.conclusion(2));
  }

  private void sequentSymbolsButOne() {
    for (int k = 0; k < 41; k++) {
      fine("axiom 2", x.axiom(2));
    }
    for (int k = 0; k < 38; k++) {
      fine("refl", x.refl(v));
    }
    for (int k = 0; k < 3; k++) {
      fine("assume", x.assume(v));
    }
    refused("2 symbols where 1 is left", x.assume(v));
  }

  /** More terms than all that an object can have are made in the refused calls, and no more. */
  private void manyRefused() {
    int large = largeTerm();
    int other = x.free(999, truths);
    int before = x.abstraction(other, large);
    int sequent = x.assume(large);
    while (x.plain.roomForSequents() >= 2 * 1345) {
      fine("axiom 2", x.axiom(2));
    }
    for (int i = 0; i < 66; i++) {
      int instead = x.free(100 + i, truths);
      due("a large sequent", Twin.STATE, x.put(sequent, v, instead));
    }
    fine("a small one", x.refl(x.free(200, truths)));
    due("the same is the same", 1, x.same(before, x.abstraction(other, large)));
    x.compareAll();
  }

  /** h E1 (h E2 (.. h E8 v)), where En says k0 v (k1 v (.. y)) = y, of type variable n. */
  private int largeTerm() {
    int any = x.typeVariable(0);
    int links = fn(truths, fn(any, any));
    int y = x.free(0, any);
    int chain = y;
    for (int i = 0; i < 40; i++) {
      chain = x.apply(x.apply(x.free(i, links), v), chain);
    }
    int equality = x.constant(0, fn(any, fn(any, truths)));
    int first = x.assume(x.apply(x.apply(equality, chain), y));
    int h = x.free(0, fn(truths, fn(truths, truths)));
    int all = v;
    for (int n = 1; n <= 8; n++) {
      int type = x.typeVariable(n);
      int said = x.conclusion(x.retype(first, 0, type, 0, type));
      all = x.apply(x.apply(h, said), all);
    }
    return all;
  }

  private void termHandleSymbols() {
    x.axiom(2);
    for (int k = 0; k < 41; k++) {
      fine("conclusion", x.conclusion(0));
    }
    refused("too many symbols", x.conclusion(0));
    for (int k = 0; k < 20000 - 41 * 483 - 1 - 3; k++) {
      fine("free", x.free(k, truths));
    }
    refused("484 symbols where 3 are left", x.abstraction(v, 1));
    fine("2 symbols", x.abstraction(v, v));
    refused("2 symbols where 1 is left", x.abstraction(v, v));
    fine("1 symbol", x.free(0, truths));
    refused("1 symbol where none is left", x.free(0, truths));
    int assumed = x.assume(v);
    refused("a hypothesis", x.hypothesis(assumed, 0));
    fine("a type", x.typeOf(v));
  }

  private void typeHandleSymbols() {
    int t = type199();
    int made = 1 + 3 + 7 + 15 + 31 + 63 + 127 + 71 + 199;
    int big = x.free(1, t);
    for (; made + 199 <= 6000; made += 199) {
      fine("typeOf", x.typeOf(big));
    }
    refused("too many symbols", x.typeOf(big));
    for (; made < 6000; made++) {
      fine("typeVariable", x.typeVariable(5));
    }
    refused("a variable", x.typeVariable(5));
    refused("a constructor", x.type(0, 0, 0));
    refused("a term's type", x.typeOf(v));
    fine("a term", x.free(2, t));
  }

  private void constants() {
    int id = x.abstraction(v, v);
    int s = x.refl(id);
    for (int c = 2; c < 199; c++) {
      fine("define", x.define(id));
    }
    refused("two constants where one is left", x.defineType(s));
    due("no constructor of a refused call", Twin.ARGUMENT, x.type(3, 0, 0));
    fine("the last constant", x.define(id));
    refused("the 201st constant", x.define(id));
    int one = x.typeOf(id);
    fine("constant 199", x.constant(199, one));
    due("constant 200", Twin.ARGUMENT, x.constant(200, one));
  }

  private void constructors() {
    int id = x.abstraction(v, v);
    int s = x.refl(id);
    for (int c = 3; c < 40; c++) {
      fine("defineType", x.defineType(s));
    }
    refused("the 41st constructor", x.defineType(s));
    fine("constructor 39", x.type(39, 0, 0));
    due("constructor 40", Twin.ARGUMENT, x.type(40, 0, 0));
    fine("a constant", x.define(id));
  }
}
