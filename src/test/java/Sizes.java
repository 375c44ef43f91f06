import java.util.HashMap;
import java.util.Map;

/** Types and terms with so many symbols or so high, made on a bench. */
final class Sizes {
  private final Bench b;
  private final Twin x;
  private final Map<Integer, Integer> types = new HashMap<>();
  private final Map<Integer, Integer> terms = new HashMap<>();
  private final Map<Integer, Integer> closed = new HashMap<>();

  Sizes(Bench b) {
    this.b = b;
    x = b.x;
    types.put(1, b.truths);
    types.put(3, b.one);
    terms.put(1, b.p);
    closed.put(1, b.c);
  }

  private int checkedTerm(int symbols, int handle) {
    Check.same("symbols", symbols, symbolsOf(handle));
    return handle;
  }

  private int checkedHeight(int height, int handle) {
    Check.same("height", height, x.plain.termHandles.get(handle).height());
    return handle;
  }

  /** A type with so many symbols, an odd number, and not high. */
  int type(int symbols) {
    Integer known = types.get(symbols);
    if (known != null) {
      return known;
    }
    int first = (symbols - 1) / 4 * 2 + 1;
    first = first >= symbols - 1 ? first - 2 : first;
    int made = x.type(2, type(first), type(symbols - 1 - first));
    Check.same("symbols", symbols, x.plain.typeHandles.get(made).symbols());
    types.put(symbols, made);
    return made;
  }

  int highType(int height) {
    int made = b.truths;
    for (int h = 2; h <= height; h++) {
      made = x.type(2, b.truths, made);
    }
    return made;
  }

  /** A term of truths with so many symbols, not 2, with free variables p and others. */
  int term(int symbols) {
    Integer known = terms.get(symbols);
    if (known != null) {
      return known;
    }
    int made;
    if (symbols == 4) {
      int k = x.free(2, x.type(2, b.one, b.truths));
      made = x.apply(k, x.abstraction(b.q, b.p));
    } else if (symbols < 9) {
      made = x.apply(b.f, term(symbols - 2));
    } else {
      int first = (symbols - 3) / 2;
      made = x.apply(x.apply(x.free(2, b.two), term(first)), term(symbols - 3 - first));
    }
    terms.put(symbols, made);
    return checkedTerm(symbols, made);
  }

  /** A term of truths with so many symbols and no free variable: 1, 4, 5, 7 and more. */
  int closedTerm(int symbols) {
    Integer known = closed.get(symbols);
    if (known != null) {
      return known;
    }
    int made;
    if (symbols == 5 || symbols == 9 || symbols > 16) {
      int first = symbols > 16 ? (symbols - 3) / 2 : symbols - 4;
      made = equation(closedTerm(first), closedTerm(symbols - 3 - first));
    } else {
      made = x.apply(b.id, closedTerm(symbols - 3));
    }
    closed.put(symbols, made);
    return checkedTerm(symbols, made);
  }

  int equation(int left, int right) {
    return x.apply(x.apply(b.equality, left), right);
  }

  /** A term over a hundred times as large as those that it is made of, by way of a sequent. */
  int closedBigTerm(int symbols) {
    int body = equation(b.p, b.p);
    body = equation(body, body);
    int rest = symbols - 9;
    for (; rest % 4 != 0; rest -= 3) {
      body = x.apply(b.id, body);
    }
    int a = x.put(x.assume(body), b.p, closedTerm(rest / 4));
    return checkedTerm(symbols, x.conclusion(a));
  }

  /** p under functions, so high. */
  int highTerm(int height) {
    int[] chain = chain(b.f, 41);
    if (height <= 41) {
      return checkedHeight(height, chain[height]);
    }
    int a = x.put(x.assume(chain[41]), b.p, chain[Math.min(41, height - 40)]);
    if (height > 81) {
      a = x.put(a, b.p, chain[height - 80]);
    }
    return checkedHeight(height, x.conclusion(a));
  }

  /** The function over p, so many times less one. */
  private int[] chain(int function, int most) {
    int[] chain = new int[most + 1];
    chain[1] = b.p;
    for (int k = 2; k <= most; k++) {
      chain[k] = x.apply(function, chain[k - 1]);
    }
    return chain;
  }

  /** The constant c under so many identities less two, so high. */
  int closedHighTerm(int height) {
    int[] chain = chain(b.id, 41);
    int a = x.put(x.assume(chain[41]), b.p, chain[41]);
    a = x.put(x.put(a, b.p, chain[height - 81]), b.p, b.c);
    return checkedHeight(height, x.conclusion(a));
  }

  /** Supposed: left = right. The larger one is put in last, for it counts each time. */
  int supposedEquation(int left, int right) {
    int l = x.free(50, b.truths);
    int r = x.free(51, b.truths);
    int a = x.assume(equation(l, r));
    boolean leftLast = symbolsOf(left) > symbolsOf(right);
    return leftLast ? x.put(x.put(a, r, right), l, left) : x.put(x.put(a, l, left), r, right);
  }

  private int symbolsOf(int term) {
    return x.plain.termHandles.get(term).symbols();
  }

  /** |- (\x. c) t = c. */
  int dropped(int t) {
    int v = x.free(50, b.truths);
    return x.put(x.beta(x.apply(x.abstraction(v, b.c), v)), v, t);
  }
}
