import java.util.ArrayList;
import java.util.HashMap;
import java.util.HashSet;
import java.util.List;
import java.util.Map;
import java.util.Set;

/** Reads a trace, and makes its sequents again in a new object. */
final class Replay {
  final SequentMill made = new SequentMill();
  private final int[] trace;
  /** Each type's handle in the new object. */
  private final List<Integer> types = new ArrayList<>();
  private final List<Entry> terms = new ArrayList<>();
  /** The handles of terms that have been made, but for those in which a bound variable is loose. */
  private final Map<Integer, Integer> handles = new HashMap<>();
  private final Set<Integer> namesInUse = new HashSet<>();
  private int at = 0;

  /** A term's entry; around it have to stand so many abstractions. */
  private record Entry(int kind, int first, int second, int around) {}

  Replay(int[] trace) {
    this.trace = trace;
  }

  static int[] traceOf(SequentMill mill) {
    int[] numbers = new int[mill.traced()];
    for (int i = 0; i < numbers.length; i++) {
      numbers[i] = mill.trace(i);
    }
    return numbers;
  }

  void run() {
    while (at < trace.length) {
      int kind = next();
      if (kind < 2) {
        types.add(kind == 0 ? made.typeVariable(next()) : built(next()));
      } else if (kind < 10) {
        readTerm(kind, next(), next());
      } else {
        step(kind - 10);
      }
    }
  }

  private int next() {
    at++;
    return trace[at - 1];
  }

  /** How many types a constructor takes is told by those that it asks for. */
  private int built(int constructor) {
    try {
      return made.type(constructor, -1, -1);
    } catch (IndexOutOfBoundsException takesSome) {
      int a = types.get(next());
      try {
        return made.type(constructor, a, -1);
      } catch (IndexOutOfBoundsException takesTwo) {
        return made.type(constructor, a, types.get(next()));
      }
    }
  }

  private void readTerm(int kind, int first, int second) {
    int around = 0;
    if (kind == 2) {
      namesInUse.add(first);
    } else if (kind == 4) {
      around = Math.max(terms.get(first).around, terms.get(second).around);
    } else if (kind == 5) {
      around = Math.max(0, terms.get(second).around - 1);
    } else if (kind == 6) {
      around = first + 1;
    }
    terms.add(new Entry(kind, first, second, around));
  }

  /** The term whose number comes next. */
  private int named() {
    return term(next(), List.of());
  }

  /** A term under abstractions whose variables are free until they are made, the last innermost. */
  private int term(int number, List<Integer> bound) {
    Integer known = handles.get(number);
    if (known != null) {
      return known;
    }
    Entry entry = terms.get(number);
    int handle = switch (entry.kind) {
      case 2 -> made.free(entry.first, types.get(entry.second));
      case 3 -> made.constant(entry.first, types.get(entry.second));
      case 4 -> made.apply(term(entry.first, bound), term(entry.second, bound));
      case 5 -> abstraction(entry, bound);
      default -> bound.get(bound.size() - 1 - entry.first);
    };
    if (entry.around == 0) {
      handles.put(number, handle);
    }
    return handle;
  }

  private int abstraction(Entry entry, List<Integer> bound) {
    int v = made.free(unusedName(bound.size()), types.get(entry.first));
    List<Integer> more = new ArrayList<>(bound);
    more.add(v);
    return made.abstraction(v, term(entry.second, more));
  }

  /** A name for the variable of the abstraction that so many stand around. */
  private int unusedName(int around) {
    int name = 999;
    for (int left = around; left > 0 || namesInUse.contains(name); name--) {
      left -= namesInUse.contains(name) ? 0 : 1;
    }
    return name;
  }

  private void step(int rule) {
    switch (rule) {
      case 0 -> made.refl(named());
      case 1 -> made.trans(next(), next());
      case 2 -> made.applied(next(), next());
      case 3 -> made.abstracted(named(), next());
      case 4 -> made.beta(named());
      case 5 -> made.assume(named());
      case 6 -> made.equal(next(), next());
      case 7 -> made.antisym(next(), next());
      case 8 -> made.put(next(), named(), named());
      case 9 -> retype(next(), next() == 1);
      case 10 -> made.define(named());
      case 11 -> made.defineType(next());
      default -> made.axiom(next());
    }
  }

  private void retype(int a, boolean one) {
    int n = next();
    int t = types.get(next());
    int m = one ? n : next();
    made.retype(a, n, t, m, one ? t : types.get(next()));
  }
}
