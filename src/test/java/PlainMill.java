import java.util.ArrayList;
import java.util.HashMap;
import java.util.HashSet;
import java.util.LinkedHashSet;
import java.util.List;
import java.util.Map;
import java.util.Set;
import java.util.TreeSet;

/** The document again, said as plainly as the Java library allows: whole trees, copied freely. */
final class PlainMill {
  /** A variable n has sign -1 - n, a constructor its own number. */
  record Ty(int sign, Ty a, Ty b) {
    int symbols() {
      return 1 + (a == null ? 0 : a.symbols()) + (b == null ? 0 : b.symbols());
    }

    int height() {
      return 1 + Math.max(a == null ? 0 : a.height(), b == null ? 0 : b.height());
    }

    void partsInto(Set<Ty> all) {
      if (all.add(this)) {
        if (a != null) {
          a.partsInto(all);
        }
        if (b != null) {
          b.partsInto(all);
        }
      }
    }

    Ty put(Map<Integer, Ty> instead) {
      if (sign < 0) {
        return instead.getOrDefault(-1 - sign, this);
      }
      return new Ty(sign, a == null ? null : a.put(instead), b == null ? null : b.put(instead));
    }
  }

  /** An application has no type of its own here, an abstraction its variable's. */
  record Tm(int sign, Ty type, Tm l, Tm r) {
    boolean isApp() {
      return sign == -1;
    }

    boolean isAbs() {
      return sign == -2;
    }

    boolean isFree() {
      return sign >= 0 && sign % 4 == 1;
    }

    int symbols() {
      return 1 + (l == null ? 0 : l.symbols()) + (r == null ? 0 : r.symbols());
    }

    int height() {
      return 1 + Math.max(l == null ? 0 : l.height(), r == null ? 0 : r.height());
    }

    Ty own() {
      return isApp() ? l.own().b : isAbs() ? fn(type, l.own()) : type;
    }

    void prefixInto(List<Integer> all) {
      all.add(sign);
      if (l != null) {
        l.prefixInto(all);
      }
      if (r != null) {
        r.prefixInto(all);
      }
    }

    boolean has(Tm part) {
      return equals(part) || (l != null && l.has(part)) || (r != null && r.has(part));
    }

    boolean hasFree() {
      return isFree() || (l != null && l.hasFree()) || (r != null && r.hasFree());
    }

    Tm put(Tm v, Tm t) {
      if (sign >= 0) {
        return equals(v) ? t : this;
      }
      return new Tm(sign, type, l.put(v, t), r == null ? null : r.put(v, t));
    }

    Tm close(Tm v, int depth) {
      if (sign >= 0) {
        return equals(v) ? new Tm(4 * depth, v.type, null, null) : this;
      }
      return isApp() ? app(l.close(v, depth), r.close(v, depth))
          : new Tm(-2, type, l.close(v, depth + 1), null);
    }

    Tm open(Tm v, int depth) {
      if (sign >= 0) {
        return sign == 4 * depth ? v : this;
      }
      return isApp() ? app(l.open(v, depth), r.open(v, depth))
          : new Tm(-2, type, l.open(v, depth + 1), null);
    }

    Tm retype(Map<Integer, Ty> instead) {
      return new Tm(sign, type == null ? null : type.put(instead),
          l == null ? null : l.retype(instead), r == null ? null : r.retype(instead));
    }

    /** The types that count, and in the second set those that have to keep their limits too. */
    void typesInto(Set<Ty> counted, Set<Ty> measured) {
      if (isApp()) {
        own().partsInto(counted);
        l.typesInto(counted, measured);
        r.typesInto(counted, measured);
        return;
      }
      type.partsInto(counted);
      if (isAbs()) {
        measured.add(own());
        l.typesInto(counted, measured);
      }
    }

    TreeSet<Integer> typeVariables() {
      Set<Ty> all = new HashSet<>();
      typesInto(all, new HashSet<>());
      return variablesOf(all);
    }
  }

  record Sequent(List<Tm> hypotheses, Tm conclusion, boolean defines, int traced, int types,
      int terms) {
    int symbols() {
      int many = conclusion.symbols();
      for (Tm h : hypotheses) {
        many += h.symbols();
      }
      return many;
    }
  }

  static final Ty TRUTHS = new Ty(0, null, null);
  static final Ty THINGS = new Ty(1, null, null);

  final List<Ty> typeHandles = new ArrayList<>();
  final List<Tm> termHandles = new ArrayList<>();
  final List<Sequent> sequents = new ArrayList<>();
  final List<Ty> constants = new ArrayList<>();
  final List<Integer> constructors = new ArrayList<>();
  final List<Integer> trace = new ArrayList<>();
  private final Map<Ty, Integer> typeEntries = new HashMap<>();
  private final Map<Tm, Integer> termEntries = new HashMap<>();
  private final Set<Ty> counted = new HashSet<>();
  /** Terms that handles or sequents have had: no limit on types or terms forbids them. */
  private final Set<Tm> known = new HashSet<>();
  private int typeSymbols = 0;
  private int termSymbols = 0;
  private int sequentSymbols = 0;

  PlainMill() {
    constructors.addAll(List.of(0, 0, 2));
    Ty any = variable(0);
    constants.add(fn(any, fn(any, TRUTHS)));
    constants.add(fn(fn(any, TRUTHS), any));
    for (Ty own : constants) {
      own.partsInto(counted);
    }
  }

  static Ty variable(int n) {
    return new Ty(-1 - n, null, null);
  }

  static Ty fn(Ty a, Ty b) {
    return new Ty(2, a, b);
  }

  static Tm name(int n, Ty type) {
    return new Tm(4 * n + 1, type, null, null);
  }

  static Tm con(int c, Ty type) {
    return new Tm(4 * c + 2, type, null, null);
  }

  static Tm app(Tm f, Tm x) {
    return new Tm(-1, null, f, x);
  }

  static Tm lam(Tm v, Tm body) {
    return new Tm(-2, v.type, body.close(v, 0), null);
  }

  static Tm eq(Tm l, Tm r) {
    Ty type = l.own();
    return app(app(con(0, fn(type, fn(type, TRUTHS))), l), r);
  }

  static TreeSet<Integer> variablesOf(Set<Ty> types) {
    TreeSet<Integer> all = new TreeSet<>();
    for (Ty type : types) {
      if (type.sign < 0) {
        all.add(-1 - type.sign);
      }
    }
    return all;
  }

  static boolean isEq(Tm t) {
    return t.isApp() && t.l.isApp() && t.l.l.sign == 2;
  }

  static boolean canTake(Tm f, Tm x) {
    return f.own().sign == 2 && f.own().a.equals(x.own());
  }

  static boolean becomes(Ty own, Ty type, Map<Integer, Ty> found) {
    if (own.sign < 0) {
      Ty old = found.putIfAbsent(own.sign, type);
      return old == null || old.equals(type);
    }
    return own.sign == type.sign && (own.a == null || becomes(own.a, type.a, found))
        && (own.b == null || becomes(own.b, type.b, found));
  }

  private static void argument(boolean fine) {
    if (!fine) {
      throw new IllegalArgumentException();
    }
  }

  private static void state(boolean fine) {
    if (!fine) {
      throw new IllegalStateException();
    }
  }

  private static <T> T at(List<T> all, int i) {
    if (i < 0 || i >= all.size()) {
      throw new IndexOutOfBoundsException();
    }
    return all.get(i);
  }

  int countedTypes() {
    return counted.size();
  }

  int roomForSequents() {
    return 20000 - sequentSymbols;
  }

  int roomForTerms() {
    return 20000 - termSymbols;
  }

  int roomForTypes() {
    return 6000 - typeSymbols;
  }

  /** Throws if the limits on types or terms forbid these; answers the types that come to count. */
  private Set<Ty> fresh(List<Ty> types, List<Tm> terms) {
    Set<Ty> all = new HashSet<>();
    Set<Ty> measured = new HashSet<>();
    for (Ty type : types) {
      type.partsInto(all);
    }
    for (Tm term : terms) {
      if (!known.contains(term)) {
        state(term.symbols() <= 4000 && term.height() <= 120);
        term.typesInto(all, measured);
      }
    }
    measured.addAll(all);
    for (Ty type : measured) {
      state(type.symbols() <= 200 && type.height() <= 24);
    }
    all.removeAll(counted);
    state(counted.size() + all.size() <= 8000);
    return all;
  }

  private int answer(Ty type) {
    Set<Ty> fresh = fresh(List.of(type), List.of());
    state(typeSymbols + type.symbols() <= 6000);
    typeSymbols += type.symbols();
    counted.addAll(fresh);
    typeHandles.add(type);
    return typeHandles.size() - 1;
  }

  private int answer(Tm term) {
    Set<Ty> fresh = fresh(List.of(), List.of(term));
    state(termSymbols + term.symbols() <= 20000);
    termSymbols += term.symbols();
    counted.addAll(fresh);
    known.add(term);
    termHandles.add(term);
    return termHandles.size() - 1;
  }

  int typeVariable(int n) {
    argument(n >= 0 && n <= 999);
    return answer(variable(n));
  }

  int type(int constructor, int a, int b) {
    argument(constructor >= 0 && constructor < constructors.size());
    int takes = constructors.get(constructor);
    Ty first = takes > 0 ? at(typeHandles, a) : null;
    Ty second = takes > 1 ? at(typeHandles, b) : null;
    return answer(new Ty(constructor, first, second));
  }

  int free(int n, int type) {
    Ty ofType = at(typeHandles, type);
    argument(n >= 0 && n <= 999);
    return answer(name(n, ofType));
  }

  int constant(int c, int type) {
    Ty ofType = at(typeHandles, type);
    argument(c >= 0 && c < constants.size());
    argument(becomes(constants.get(c), ofType, new HashMap<>()));
    return answer(con(c, ofType));
  }

  int apply(int f, int x) {
    Tm function = at(termHandles, f);
    Tm argument = at(termHandles, x);
    argument(canTake(function, argument));
    return answer(app(function, argument));
  }

  int abstraction(int v, int body) {
    Tm variable = at(termHandles, v);
    Tm inside = at(termHandles, body);
    argument(variable.isFree());
    return answer(lam(variable, inside));
  }

  int typeOf(int t) {
    return answer(at(termHandles, t).own());
  }

  int symbol(int t, int i) {
    List<Integer> prefix = new ArrayList<>();
    at(termHandles, t).prefixInto(prefix);
    return at(prefix, i);
  }

  boolean same(int t, int u) {
    return at(termHandles, t).equals(at(termHandles, u));
  }

  /** The entries that a step needs, then the step; taken back if it does not come about. */
  private final class Step {
    final int traced = trace.size();
    final int types = typeEntries.size();
    final int terms = termEntries.size();

    int entry(Ty type) {
      Integer known = typeEntries.get(type);
      if (known != null) {
        return known;
      }
      List<Integer> numbers = new ArrayList<>();
      numbers.add(type.sign < 0 ? 0 : 1);
      numbers.add(type.sign < 0 ? -1 - type.sign : type.sign);
      if (type.a != null) {
        numbers.add(entry(type.a));
      }
      if (type.b != null) {
        numbers.add(entry(type.b));
      }
      trace.addAll(numbers);
      typeEntries.put(type, typeEntries.size());
      return typeEntries.size() - 1;
    }

    int entry(Tm term) {
      Integer known = termEntries.get(term);
      if (known != null) {
        return known;
      }
      if (term.isApp()) {
        int f = entry(term.l);
        int x = entry(term.r);
        trace.addAll(List.of(4, f, x));
      } else if (term.isAbs()) {
        int a = entry(term.type);
        int b = entry(term.l);
        trace.addAll(List.of(5, a, b));
      } else {
        int a = entry(term.type);
        int kind = term.sign % 4 == 0 ? 6 : term.sign % 4 == 1 ? 2 : 3;
        trace.addAll(List.of(kind, term.sign / 4, a));
      }
      termEntries.put(term, termEntries.size());
      return termEntries.size() - 1;
    }

    void write(Integer... numbers) {
      trace.addAll(List.of(numbers));
    }
  }

  private void traceBack(int traced, int types, int terms) {
    trace.subList(traced, trace.size()).clear();
    typeEntries.values().removeIf(n -> n >= types);
    termEntries.values().removeIf(n -> n >= terms);
  }

  private int finish(Step step, boolean defines, List<Tm> hypotheses, Tm... conclusions) {
    try {
      List<Tm> all = new ArrayList<>(hypotheses);
      all.addAll(List.of(conclusions));
      Set<Ty> fresh = fresh(List.of(), all);
      int symbols = 0;
      for (Tm term : all) {
        symbols += term.symbols();
      }
      state(sequentSymbols + symbols <= 20000 && hypotheses.size() <= 60);
      state(sequents.size() + conclusions.length <= 1000 && trace.size() <= 60000);
      counted.addAll(fresh);
      known.addAll(all);
      sequentSymbols += symbols;
    } catch (IllegalStateException e) {
      traceBack(step.traced, step.types, step.terms);
      throw e;
    }
    int number = sequents.size();
    for (int i = 0; i < conclusions.length; i++) {
      sequents.add(new Sequent(i == 0 ? hypotheses : List.of(), conclusions[i], defines,
          step.traced, step.types, step.terms));
    }
    return number;
  }

  private static List<Tm> joined(List<Tm> a, List<Tm> b) {
    Set<Tm> all = new LinkedHashSet<>(a);
    all.addAll(b);
    return new ArrayList<>(all);
  }

  private static List<Tm> but(List<Tm> a, Tm term) {
    List<Tm> rest = new ArrayList<>(a);
    rest.remove(term);
    return rest;
  }

  int refl(int t) {
    Tm term = at(termHandles, t);
    Step step = new Step();
    step.write(10, step.entry(term));
    return finish(step, false, List.of(), eq(term, term));
  }

  int trans(int a, int b) {
    Sequent p = at(sequents, a);
    Sequent q = at(sequents, b);
    argument(isEq(p.conclusion) && isEq(q.conclusion) && p.conclusion.r.equals(q.conclusion.l.r));
    Step step = new Step();
    step.write(11, a, b);
    Tm made = eq(p.conclusion.l.r, q.conclusion.r);
    return finish(step, false, joined(p.hypotheses, q.hypotheses), made);
  }

  int applied(int a, int b) {
    Sequent p = at(sequents, a);
    Sequent q = at(sequents, b);
    argument(isEq(p.conclusion) && isEq(q.conclusion));
    argument(canTake(p.conclusion.l.r, q.conclusion.l.r));
    Step step = new Step();
    step.write(12, a, b);
    Tm left = app(p.conclusion.l.r, q.conclusion.l.r);
    Tm right = app(p.conclusion.r, q.conclusion.r);
    return finish(step, false, joined(p.hypotheses, q.hypotheses), eq(left, right));
  }

  int abstracted(int v, int a) {
    Tm variable = at(termHandles, v);
    Sequent p = at(sequents, a);
    argument(variable.isFree() && isEq(p.conclusion));
    for (Tm h : p.hypotheses) {
      argument(!h.has(variable));
    }
    Step step = new Step();
    step.write(13, step.entry(variable), a);
    Tm made = eq(lam(variable, p.conclusion.l.r), lam(variable, p.conclusion.r));
    return finish(step, false, p.hypotheses, made);
  }

  int beta(int t) {
    Tm term = at(termHandles, t);
    argument(term.isApp() && term.l.isAbs() && term.r.isFree());
    Step step = new Step();
    step.write(14, step.entry(term));
    return finish(step, false, List.of(), eq(term, term.l.l.open(term.r, 0)));
  }

  int assume(int t) {
    Tm term = at(termHandles, t);
    argument(term.own().equals(TRUTHS));
    Step step = new Step();
    step.write(15, step.entry(term));
    return finish(step, false, List.of(term), term);
  }

  int equal(int a, int b) {
    Sequent p = at(sequents, a);
    Sequent q = at(sequents, b);
    argument(isEq(p.conclusion) && p.conclusion.l.r.equals(q.conclusion));
    Step step = new Step();
    step.write(16, a, b);
    return finish(step, false, joined(p.hypotheses, q.hypotheses), p.conclusion.r);
  }

  int antisym(int a, int b) {
    Sequent p = at(sequents, a);
    Sequent q = at(sequents, b);
    Step step = new Step();
    step.write(17, a, b);
    List<Tm> left = but(p.hypotheses, q.conclusion);
    List<Tm> right = but(q.hypotheses, p.conclusion);
    return finish(step, false, joined(left, right), eq(p.conclusion, q.conclusion));
  }

  int put(int a, int v, int t) {
    Sequent p = at(sequents, a);
    Tm variable = at(termHandles, v);
    Tm term = at(termHandles, t);
    argument(variable.isFree() && variable.type.equals(term.own()));
    Step step = new Step();
    int first = step.entry(variable);
    step.write(18, a, first, step.entry(term));
    List<Tm> hypotheses = new ArrayList<>();
    for (Tm h : p.hypotheses) {
      hypotheses.add(h.put(variable, term));
    }
    Tm made = p.conclusion.put(variable, term);
    return finish(step, false, joined(hypotheses, List.of()), made);
  }

  int retype(int a, int n, int t, int m, int u) {
    Sequent p = at(sequents, a);
    Ty first = at(typeHandles, t);
    Ty second = at(typeHandles, u);
    argument(n >= 0 && n <= 999 && m >= 0 && m <= 999);
    argument(n != m || first.equals(second));
    Step step = new Step();
    int one = step.entry(first);
    if (n == m) {
      step.write(19, a, 1, n, one);
    } else {
      step.write(19, a, 2, n, one, m, step.entry(second));
    }
    Map<Integer, Ty> instead = new HashMap<>(Map.of(m, second));
    instead.put(n, first);
    List<Tm> hypotheses = new ArrayList<>();
    for (Tm h : p.hypotheses) {
      hypotheses.add(h.retype(instead));
    }
    Tm made = p.conclusion.retype(instead);
    return finish(step, false, joined(hypotheses, List.of()), made);
  }

  int define(int t) {
    Tm term = at(termHandles, t);
    Set<Ty> ofType = new HashSet<>();
    term.own().partsInto(ofType);
    argument(!term.hasFree() && variablesOf(ofType).containsAll(term.typeVariables()));
    state(constants.size() < 200);
    Step step = new Step();
    step.write(20, step.entry(term));
    int number = finish(step, true, List.of(), eq(con(constants.size(), term.own()), term));
    constants.add(term.own());
    return number;
  }

  int defineType(int a) {
    Sequent p = at(sequents, a);
    argument(p.hypotheses.isEmpty() && p.conclusion.isApp() && !p.conclusion.l.hasFree());
    List<Integer> variables = new ArrayList<>(p.conclusion.l.typeVariables());
    argument(variables.size() <= 2);
    state(constants.size() + 2 <= 200 && constructors.size() < 40);
    Ty made = new Ty(constructors.size(), variables.size() > 0 ? variable(variables.get(0)) : null,
        variables.size() > 1 ? variable(variables.get(1)) : null);
    Ty old = p.conclusion.r.own();
    Tm to = con(constants.size(), fn(old, made));
    Tm fro = con(constants.size() + 1, fn(made, old));
    Tm x = name(0, made);
    Tm r = name(0, old);
    Step step = new Step();
    step.write(21, a);
    int number = finish(step, true, List.of(), eq(app(to, app(fro, x)), x),
        eq(app(p.conclusion.l, r), eq(app(fro, app(to, r)), r)));
    constants.add(to.type);
    constants.add(fro.type);
    constructors.add(variables.size());
    return number;
  }

  static Tm truth() {
    Tm p = name(7, TRUTHS);
    return eq(lam(p, p), lam(p, p));
  }

  static Tm and(Tm p, Tm q) {
    Tm f = name(999, fn(TRUTHS, fn(TRUTHS, TRUTHS)));
    return eq(lam(f, app(app(f, p), q)), lam(f, app(app(f, truth()), truth())));
  }

  static Tm implies(Tm p, Tm q) {
    return eq(and(p, q), p);
  }

  static Tm all(Tm v, Tm p) {
    return eq(lam(v, p), lam(v, truth()));
  }

  static Tm some(Tm v, Tm p) {
    Tm set = lam(v, p);
    return app(set, app(con(1, fn(fn(v.type, TRUTHS), v.type)), set));
  }

  static Tm not(Tm p) {
    Tm q = name(5, TRUTHS);
    return implies(p, all(q, q));
  }

  static Tm axiomTerm(int k) {
    Ty any = variable(0);
    Tm x = name(0, k == 2 ? THINGS : any);
    if (k == 0) {
      Tm f = name(1, fn(any, variable(1)));
      return eq(lam(x, app(f, x)), f);
    }
    if (k == 1) {
      Tm p = name(1, fn(any, TRUTHS));
      return implies(app(p, x), app(p, app(con(1, fn(fn(any, TRUTHS), any)), p)));
    }
    Tm y = name(1, THINGS);
    Tm f = name(2, fn(THINGS, THINGS));
    Tm oneToOne = all(x, all(y, implies(eq(app(f, x), app(f, y)), eq(x, y))));
    Tm notOnto = some(y, all(x, not(eq(y, app(f, x)))));
    return some(f, and(oneToOne, notOnto));
  }

  int axiom(int k) {
    argument(k >= 0 && k <= 2);
    Step step = new Step();
    step.write(22, k);
    return finish(step, false, List.of(), axiomTerm(k));
  }

  int conclusion(int a) {
    return answer(at(sequents, a).conclusion);
  }

  int hypotheses(int a) {
    return at(sequents, a).hypotheses.size();
  }

  int hypothesis(int a, int i) {
    return answer(at(at(sequents, a).hypotheses, i));
  }

  int size() {
    return sequents.size();
  }

  void cut(int n) {
    argument(n >= 0 && n <= sequents.size());
    for (int i = n; i < sequents.size(); i++) {
      argument(!sequents.get(i).defines);
    }
    if (n < sequents.size()) {
      Sequent first = sequents.get(n);
      traceBack(first.traced, first.types, first.terms);
      sequents.subList(n, sequents.size()).clear();
    }
  }

  int traced() {
    return trace.size();
  }

  int trace(int i) {
    return at(trace, i);
  }
}
