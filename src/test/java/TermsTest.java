import java.util.ArrayList;
import java.util.List;

/** Promises 1 to 10: types and terms. */
public final class TermsTest {
  private static final String INDEX = Check.INDEX;
  private static final String ARGUMENT = Check.ARGUMENT;

  public static void main(String[] args) {
    newObject();
    typeVariable();
    type();
    free();
    constant();
    apply();
    abstraction();
    typeOf();
    symbol();
    same();
    Check.done();
  }

  static List<Integer> prefix(SequentMill x, int t) {
    List<Integer> all = new ArrayList<>();
    try {
      for (int i = 0; i < 5000; i++) {
        all.add(x.symbol(t, i));
      }
    } catch (IndexOutOfBoundsException e) {
      return all;
    }
    return all;
  }

  private static void newObject() {
    SequentMill x = new SequentMill();
    Check.due("1: size", 0, () -> x.size());
    Check.due("1: traced", 0, () -> x.traced());
    Check.refused("1: no type", INDEX, () -> x.free(0, 0));
    Check.refused("1: no term", INDEX, () -> x.symbol(0, 0));
    Check.refused("1: no sequent", INDEX, () -> x.conclusion(0));
    Check.due("1: the first type", 0, () -> x.type(0, 0, 0));
    Check.due("1: the first term", 0, () -> x.free(0, 0));
    Check.due("1: the first sequent", 0, () -> x.refl(0));
  }

  private static void typeVariable() {
    SequentMill x = new SequentMill();
    Check.due("2: 0", 0, () -> x.typeVariable(0));
    Check.due("2: 999", 1, () -> x.typeVariable(999));
    Check.refused("2: 1000", ARGUMENT, () -> x.typeVariable(1000));
    Check.refused("2: -1", ARGUMENT, () -> x.typeVariable(-1));
    Check.refused("2: the least", ARGUMENT, () -> x.typeVariable(Integer.MIN_VALUE));
    Check.due("2: again", 2, () -> x.typeVariable(0));
    x.free(5, 0);
    x.free(5, 1);
    x.free(5, 2);
    Check.same("2: another variable", false, x.same(0, 1));
    Check.same("2: the same variable", true, x.same(0, 2));
  }

  private static void type() {
    SequentMill x = new SequentMill();
    Check.refused("3: functions of no types", INDEX, () -> x.type(2, 0, 0));
    Check.due("3: truths, others are not looked at", 0, () -> x.type(0, -7, 99));
    Check.due("3: things", 1, () -> x.type(1, 99, -1));
    Check.due("3: functions", 2, () -> x.type(2, 0, 1));
    Check.refused("3: no constructor", ARGUMENT, () -> x.type(3, 0, 0));
    Check.refused("3: no constructor comes first", ARGUMENT, () -> x.type(-1, -1, -1));
    Check.refused("3: no first type", INDEX, () -> x.type(2, 3, 0));
    Check.refused("3: no second type", INDEX, () -> x.type(2, 0, 3));
    Check.refused("3: a type below 0", INDEX, () -> x.type(2, -1, 0));
    Check.due("3: functions of functions", 3, () -> x.type(2, 2, 2));
    Check.due("3: the other way round", 4, () -> x.type(2, 1, 0));
    x.free(0, 2);
    x.free(0, 4);
    Check.same("3: the order counts", false, x.same(0, 1));
    SequentMill y = new SequentMill();
    int a = y.typeVariable(3);
    int v = y.free(0, a);
    int s = y.refl(y.abstraction(v, v));
    y.defineType(s);
    Check.due("3: a constructor of one type", 1, () -> y.type(3, 0, -1));
    Check.refused("3: its type is none", INDEX, () -> y.type(3, 5, 0));
    Check.refused("3: the next constructor", ARGUMENT, () -> y.type(4, 0, 0));
  }

  private static void free() {
    SequentMill x = new SequentMill();
    int a = x.typeVariable(0);
    Check.due("4: 0", 0, () -> x.free(0, a));
    Check.due("4: 999", 1, () -> x.free(999, a));
    Check.refused("4: 1000", ARGUMENT, () -> x.free(1000, a));
    Check.refused("4: -1", ARGUMENT, () -> x.free(-1, a));
    Check.refused("4: no type", INDEX, () -> x.free(0, 1));
    Check.refused("4: no type comes first", INDEX, () -> x.free(-1, 1));
    Check.due("4: the next", 2, () -> x.free(7, a));
    Check.same("4: 999's symbols", List.of(4 * 999 + 1), prefix(x, 1));
    Check.same("4: 7's symbols", List.of(29), prefix(x, 2));
  }

  private static void constant() {
    SequentMill x = new SequentMill();
    int truths = x.type(0, 0, 0);
    int a = x.typeVariable(0);
    int b = x.typeVariable(5);
    int aSet = x.type(2, a, truths);
    int bSet = x.type(2, b, truths);
    int choice = x.type(2, bSet, b);
    int equality = x.type(2, aSet, x.type(2, aSet, truths));
    int wrong = x.type(2, a, bSet);
    Check.due("5: choice", 0, () -> x.constant(1, choice));
    Check.due("5: equality of sets", 1, () -> x.constant(0, equality));
    Check.refused("5: equality of two types", ARGUMENT, () -> x.constant(0, wrong));
    Check.refused("5: equality of choice's type", ARGUMENT, () -> x.constant(0, choice));
    Check.refused("5: choice of equality's type", ARGUMENT, () -> x.constant(1, equality));
    Check.refused("5: equality of truths", ARGUMENT, () -> x.constant(0, truths));
    Check.refused("5: equality of a variable", ARGUMENT, () -> x.constant(0, a));
    Check.refused("5: no constant", ARGUMENT, () -> x.constant(2, choice));
    Check.refused("5: a constant below 0", ARGUMENT, () -> x.constant(-1, choice));
    Check.refused("5: no type", INDEX, () -> x.constant(0, 99));
    Check.refused("5: no type comes first", INDEX, () -> x.constant(-1, -1));
    Check.due("5: the next", 2, () -> x.free(0, a));
    Check.same("5: choice's symbols", List.of(6), prefix(x, 0));
    Check.same("5: equality's symbols", List.of(2), prefix(x, 1));
    int v = x.free(0, truths);
    int identity = x.abstraction(v, v);
    x.define(identity);
    int own = x.typeOf(identity);
    Check.due("5: a defined constant", 5, () -> x.constant(2, own));
    Check.refused("5: its type has no variable", ARGUMENT, () -> x.constant(2, aSet));
  }

  private static void apply() {
    SequentMill x = new SequentMill();
    int truths = x.type(0, 0, 0);
    int things = x.type(1, 0, 0);
    int f = x.free(0, x.type(2, things, truths));
    int t = x.free(1, things);
    int p = x.free(1, truths);
    Check.due("6: f t", 3, () -> x.apply(f, t));
    Check.same("6: its symbols", List.of(-1, 1, 5), prefix(x, 3));
    Check.refused("6: f p", ARGUMENT, () -> x.apply(f, p));
    Check.refused("6: t t", ARGUMENT, () -> x.apply(t, t));
    Check.refused("6: no f", INDEX, () -> x.apply(99, t));
    Check.refused("6: no x", INDEX, () -> x.apply(t, -1));
    int id = x.abstraction(t, t);
    Check.due("6: (id t)", 5, () -> x.apply(id, t));
    Check.refused("6: (id p)", ARGUMENT, () -> x.apply(id, p));
    int g = x.free(2, x.type(2, x.typeOf(id), truths));
    Check.due("6: (g id)", 7, () -> x.apply(g, id));
    int set = x.abstraction(t, p);
    Check.refused("6: g of a set", ARGUMENT, () -> x.apply(g, set));
    int two = x.abstraction(p, x.abstraction(t, p));
    Check.refused("6: g of two abstractions", ARGUMENT, () -> x.apply(g, two));
    Check.due("6: (two p)", 11, () -> x.apply(two, p));
    Check.due("6: ((two p) t)", 12, () -> x.apply(11, t));
    Check.same("6: their symbols", List.of(-1, -1, -2, -2, 4, 5, 5), prefix(x, 12));
  }

  private static void abstraction() {
    SequentMill x = new SequentMill();
    int truths = x.type(0, 0, 0);
    int one = x.type(2, truths, truths);
    int f = x.free(0, one);
    int p = x.free(3, truths);
    int q = x.free(4, truths);
    int fp = x.apply(f, p);
    Check.due("7: over p", 4, () -> x.abstraction(p, fp));
    Check.same("7: its symbols", List.of(-2, -1, 1, 0), prefix(x, 4));
    Check.due("7: over f", 5, () -> x.abstraction(f, 4));
    Check.same("7: its symbols", List.of(-2, -2, -1, 4, 0), prefix(x, 5));
    Check.due("7: over what is not in it", 6, () -> x.abstraction(q, fp));
    Check.same("7: its symbols", List.of(-2, -1, 1, 13), prefix(x, 6));
    Check.refused("7: over an application", ARGUMENT, () -> x.abstraction(fp, fp));
    Check.refused("7: over an abstraction", ARGUMENT, () -> x.abstraction(4, fp));
    int equality = x.constant(0, x.type(2, truths, one));
    Check.refused("7: over a constant", ARGUMENT, () -> x.abstraction(equality, fp));
    Check.refused("7: no body", INDEX, () -> x.abstraction(fp, 99));
    Check.refused("7: no variable", INDEX, () -> x.abstraction(-1, fp));
    int other = x.free(3, one);
    Check.due("7: over the same number of another type", 9, () -> x.abstraction(other, fp));
    Check.same("7: its symbols", List.of(-2, -1, 1, 13), prefix(x, 9));
  }

  private static void typeOf() {
    SequentMill x = new SequentMill();
    int truths = x.type(0, 0, 0);
    int things = x.type(1, 0, 0);
    int f = x.free(0, x.type(2, things, truths));
    int t = x.free(1, things);
    int p = x.free(2, truths);
    int[] all = {f, t, p, x.apply(f, t), x.abstraction(t, p), x.abstraction(p, t)};
    int[] types = new int[all.length];
    for (int i = 0; i < all.length; i++) {
      int place = i;
      Check.due("8: a new handle", 3 + i, () -> types[place] = x.typeOf(all[place]));
    }
    int[] free = new int[all.length];
    for (int i = 0; i < all.length; i++) {
      free[i] = x.free(9, types[i]);
    }
    Check.same("8: f's and \\t. p's", true, x.same(free[0], free[4]));
    Check.same("8: t's", true, x.same(free[1], x.free(9, things)));
    Check.same("8: p's and f t's", true, x.same(free[2], free[3]));
    Check.same("8: \\t. p's and \\p. t's", false, x.same(free[4], free[5]));
    Check.refused("8: no term", INDEX, () -> x.typeOf(99));
    Check.refused("8: below 0", INDEX, () -> x.typeOf(-1));
  }

  private static void symbol() {
    SequentMill x = new SequentMill();
    int truths = x.type(0, 0, 0);
    int v = x.free(3, truths);
    int w = x.free(4, truths);
    int f = x.free(5, x.type(2, truths, x.type(2, truths, truths)));
    int body = x.apply(x.apply(f, v), w);
    int one = x.abstraction(v, body);
    int two = x.abstraction(w, one);
    Check.same("9: f v w", List.of(-1, -1, 21, 13, 17), prefix(x, body));
    Check.same("9: \\v. f v w", List.of(-2, -1, -1, 21, 0, 17), prefix(x, one));
    Check.same("9: \\w. \\v. f v w", List.of(-2, -2, -1, -1, 21, 0, 4), prefix(x, two));
    Check.refused("9: behind the last", INDEX, () -> x.symbol(two, 7));
    Check.refused("9: -1", INDEX, () -> x.symbol(two, -1));
    Check.refused("9: no term", INDEX, () -> x.symbol(99, 0));
    Check.refused("9: a term below 0", INDEX, () -> x.symbol(-1, 0));
  }

  private static void same() {
    SequentMill x = new SequentMill();
    int truths = x.type(0, 0, 0);
    int things = x.type(1, 0, 0);
    int p = x.free(3, truths);
    int q = x.free(4, truths);
    int t = x.free(3, things);
    Check.same("10: p and p", true, x.same(p, x.free(3, truths)));
    Check.same("10: p and q", false, x.same(p, q));
    Check.same("10: of two types", false, x.same(p, t));
    Check.same("10: names of bound variables", true,
        x.same(x.abstraction(p, p), x.abstraction(q, q)));
    Check.same("10: bound variables of two types", false,
        x.same(x.abstraction(p, p), x.abstraction(t, t)));
    Check.same("10: a bound and a free variable", false,
        x.same(x.abstraction(p, p), x.abstraction(q, p)));
    Check.same("10: an unused variable of two types", false,
        x.same(x.abstraction(p, q), x.abstraction(t, q)));
    Check.refused("10: no first", INDEX, () -> x.same(99, 0) ? 1 : 0);
    Check.refused("10: no second", INDEX, () -> x.same(0, -1) ? 1 : 0);
  }
}
