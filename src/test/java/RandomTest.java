import java.util.ArrayList;
import java.util.HashMap;
import java.util.List;
import java.util.Random;

/** Long runs of calls, chosen by chance from fixed seeds, against the plain model. */
public final class RandomTest {
  private final Random random;
  private final Twin x;

  private RandomTest(int seed) {
    random = new Random(seed);
    x = new Twin("seed " + seed);
  }

  public static void main(String[] args) {
    int runs = args.length > 0 ? Integer.parseInt(args[0]) : 150;
    int first = args.length > 1 ? Integer.parseInt(args[1]) : 0;
    for (int seed = first; seed < first + runs; seed++) {
      new RandomTest(seed).run();
    }
    Check.done();
  }

  /** The object of a run with so many calls, or a few more. */
  static SequentMill made(int seed, int calls) {
    RandomTest test = new RandomTest(seed);
    test.makeCalls(calls);
    return test.x.mill;
  }

  private void run() {
    makeCalls(512);
    x.compareAll();
    x.compareSequents();
    x.compareAll();
  }

  private void makeCalls(int calls) {
    boolean big = random.nextInt(4) == 0;
    while (x.calls < calls) {
      if (x.calls < 20) {
        makeType();
      } else if (x.calls < 60) {
        makeTerm();
      } else {
        anyCall(big);
      }
      if (random.nextInt(100) == 0) {
        x.compareAll();
      }
    }
  }

  private int upTo(int n) {
    return random.nextInt(20) == 0 ? random.nextInt(n + 6) - 3 : n == 0 ? 0 : random.nextInt(n);
  }

  /** Mostly one of the newest ten. */
  private int recent(int n) {
    return random.nextInt(3) == 0 || n < 10 ? upTo(n) : n - 1 - random.nextInt(10);
  }

  private int types() {
    return x.plain.typeHandles.size();
  }

  private int terms() {
    return x.plain.termHandles.size();
  }

  private int sequents() {
    return x.plain.size();
  }

  private int name() {
    return random.nextInt(40) == 0 ? random.nextInt(1004) - 2 : random.nextInt(4);
  }

  private void makeType() {
    int kind = random.nextInt(5);
    if (kind == 0) {
      x.typeVariable(name());
    } else if (kind == 1) {
      x.type(random.nextInt(2), 0, 0);
    } else {
      x.type(random.nextInt(3) == 0 ? upTo(x.plain.constructors.size()) : 2, recent(types()),
          upTo(types()));
    }
  }

  private void makeTerm() {
    switch (random.nextInt(8)) {
      case 0 -> x.free(name(), upTo(types()));
      case 1, 2 -> makeConstant();
      case 3, 4, 5 -> makeApplication();
      case 6 -> x.abstraction(freeTerm(), recent(terms()));
      default -> makeEquation();
    }
  }

  private void makeConstant() {
    int c = random.nextBoolean() ? 0 : upTo(x.plain.constants.size());
    List<Integer> fit = new ArrayList<>();
    for (int t = 0; t < types() && c >= 0 && c < x.plain.constants.size(); t++) {
      PlainMill.Ty own = x.plain.constants.get(c);
      if (PlainMill.becomes(own, x.plain.typeHandles.get(t), new HashMap<>())) {
        fit.add(t);
      }
    }
    x.constant(c, fit.isEmpty() || random.nextInt(10) == 0 ? upTo(types()) : pick(fit));
  }

  private int pick(List<Integer> from) {
    return from.get(random.nextInt(from.size()));
  }

  private int freeTerm() {
    List<Integer> all = new ArrayList<>();
    for (int t = 0; t < terms(); t++) {
      if (x.plain.termHandles.get(t).isFree()) {
        all.add(t);
      }
    }
    return all.isEmpty() || random.nextInt(20) == 0 ? upTo(terms()) : pick(all);
  }

  private int termOf(PlainMill.Ty type) {
    List<Integer> all = new ArrayList<>();
    for (int t = 0; t < terms(); t++) {
      if (x.plain.termHandles.get(t).own().equals(type)) {
        all.add(t);
      }
    }
    return all.isEmpty() || random.nextInt(20) == 0 ? upTo(terms()) : pick(all);
  }

  private void makeApplication() {
    int f = recent(terms());
    if (f < 0 || f >= terms() || x.plain.termHandles.get(f).own().sign() != 2) {
      f = upTo(terms());
    }
    boolean fine = f >= 0 && f < terms() && x.plain.termHandles.get(f).own().sign() == 2;
    x.apply(f, fine ? termOf(x.plain.termHandles.get(f).own().a()) : upTo(terms()));
  }

  /** Equality of some term with another, by way of typeOf and the calls of a user. */
  private void makeEquation() {
    int t = recent(terms());
    int a = x.typeOf(t);
    int truths = x.type(0, 0, 0);
    int c = x.constant(0, x.type(2, a, x.type(2, a, truths)));
    int half = x.apply(c, t);
    x.apply(half, t >= 0 && t < terms() ? termOf(x.plain.termHandles.get(t).own()) : t);
  }

  private void anyCall(boolean big) {
    int kind = random.nextInt(40);
    if (kind < 4) {
      makeType();
    } else if (kind < 14) {
      makeTerm();
    } else if (kind < 20) {
      look();
    } else if (kind < 22 || sequents() == 0) {
      leafRule();
    } else if (kind == 22) {
      x.cut(random.nextInt(3) == 0 ? upTo(sequents() + 1) : sequents() - random.nextInt(3));
    } else if (kind < 25) {
      definition();
    } else if (big && kind < 30) {
      x.antisym(recent(sequents()), recent(sequents()));
    } else {
      rule();
    }
  }

  private void look() {
    switch (random.nextInt(8)) {
      case 0 -> x.symbol(recent(terms()), random.nextInt(20) - 1);
      case 1 -> x.same(recent(terms()), recent(terms()));
      case 2 -> x.typeOf(recent(terms()));
      case 3, 4 -> x.conclusion(recent(sequents()));
      case 5 -> x.hypothesis(recent(sequents()), random.nextInt(4) - 1);
      case 6 -> x.trace(upTo(x.plain.traced()));
      default -> x.hypotheses(upTo(sequents()));
    }
  }

  private void leafRule() {
    switch (random.nextInt(4)) {
      case 0 -> x.refl(recent(terms()));
      case 1 -> x.beta(betaTerm());
      case 2 -> x.assume(termOf(PlainMill.TRUTHS));
      default -> x.axiom(random.nextInt(5) - 1);
    }
  }

  private int betaTerm() {
    List<Integer> all = new ArrayList<>();
    for (int t = 0; t < terms(); t++) {
      PlainMill.Tm term = x.plain.termHandles.get(t);
      if (term.isApp() && term.l().isAbs() && term.r().isFree()) {
        all.add(t);
      }
    }
    return all.isEmpty() ? upTo(terms()) : pick(all);
  }

  private void definition() {
    if (random.nextBoolean()) {
      List<Integer> closed = new ArrayList<>();
      for (int t = 0; t < terms(); t++) {
        if (!x.plain.termHandles.get(t).hasFree()) {
          closed.add(t);
        }
      }
      x.define(closed.isEmpty() || random.nextInt(6) == 0 ? upTo(terms()) : pick(closed));
      return;
    }
    List<Integer> fit = new ArrayList<>();
    for (int a = 0; a < sequents(); a++) {
      PlainMill.Sequent s = x.plain.sequents.get(a);
      if (s.hypotheses().isEmpty() && s.conclusion().isApp() && !s.conclusion().l().hasFree()) {
        fit.add(a);
      }
    }
    x.defineType(fit.isEmpty() || random.nextInt(6) == 0 ? upTo(sequents()) : pick(fit));
  }

  private interface Fits {
    boolean fit(PlainMill.Tm p, PlainMill.Tm q);
  }

  /** A sequent that fits with sequent a, if there is one. */
  private int partner(int a, Fits fits) {
    List<Integer> all = new ArrayList<>();
    for (int b = 0; b < sequents() && a >= 0 && a < sequents(); b++) {
      if (fits.fit(x.plain.sequents.get(a).conclusion(), x.plain.sequents.get(b).conclusion())) {
        all.add(b);
      }
    }
    return all.isEmpty() || random.nextInt(20) == 0 ? upTo(sequents()) : pick(all);
  }

  private void rule() {
    int a = recent(sequents());
    switch (random.nextInt(8)) {
      case 0 -> x.trans(a, partner(a, (p, q) -> PlainMill.isEq(p) && PlainMill.isEq(q)
          && p.r().equals(q.l().r())));
      case 1 -> x.applied(a, partner(a, (p, q) -> PlainMill.isEq(p) && PlainMill.isEq(q)
          && PlainMill.canTake(p.l().r(), q.l().r())));
      case 2 -> x.abstracted(freeTerm(), a);
      case 3 -> x.equal(a, partner(a, (p, q) -> PlainMill.isEq(p) && p.l().r().equals(q)));
      case 4 -> x.antisym(a, recent(sequents()));
      case 5, 6 -> {
        int v = freeTerm();
        boolean fine = v >= 0 && v < terms();
        x.put(a, v, fine ? termOf(x.plain.termHandles.get(v).own()) : upTo(terms()));
      }
      default -> {
        int n = name();
        int t = recent(types());
        boolean once = random.nextInt(3) == 0;
        x.retype(a, n, t, once ? n : name(), once ? t : upTo(types()));
      }
    }
  }
}
