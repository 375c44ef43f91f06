/**
 * The limit of 60000 numbers of the trace: for each rule how many numbers have to be left. An
 * object comes near the limit in some 450 calls, so that each test makes its own.
 */
public final class TraceFullTest {
  private final Twin x;
  private final int truths;
  private final int v;
  private final int f;
  private final int id;
  private final int idv;
  private final int other;
  private final int cheap;
  private final int fIsF;
  private final int idIsId;
  private final int supposed;

  private TraceFullTest(int left) {
    x = new Twin(left + " numbers of the trace left");
    truths = x.type(0, 0, 0);
    v = x.free(0, truths);
    f = x.free(0, x.type(2, truths, truths));
    id = x.abstraction(v, v);
    idv = x.apply(id, v);
    other = x.free(1, truths);
    cheap = x.refl(v);
    fIsF = x.refl(f);
    idIsId = x.refl(id);
    supposed = x.assume(v);
    x.beta(idv);
    fill(left);
    Check.same(x.name, left, 60000 - x.traced());
  }

  public static void main(String[] args) {
    run(0, TraceFullTest::everyStepIsRefused);
    run(0, TraceFullTest::otherExceptionsComeFirst);
    run(0, TraceFullTest::otherCallsAreTaken);
    run(1, TraceFullTest::twoNumbersAreRefused);
    run(2, TraceFullTest::twoNumbersAreTaken);
    run(2, TraceFullTest::threeNumbersAreRefused);
    run(2, TraceFullTest::refusedNumbersDoNotCount);
    run(2, t -> t.fine("21", t.x.define(t.id)));
    run(2, t -> t.fine("22", t.x.defineType(t.idIsId)));
    run(3, TraceFullTest::threeNumbersAreTaken);
    run(3, t -> t.refused("19", t.x.put(t.cheap, t.v, t.v)));
    run(4, t -> t.fine("19", t.x.put(t.cheap, t.v, t.v)));
    run(4, TraceFullTest::fiveNumbersAreRefused);
    run(5, TraceFullTest::fiveNumbersAreTaken);
    run(6, t -> t.refused("20: two", t.x.retype(t.cheap, 0, t.truths, 1, t.truths)));
    run(7, t -> t.fine("20: two", t.x.retype(t.cheap, 0, t.truths, 1, t.truths)));
    Check.done();
  }

  private interface Test {
    void run(TraceFullTest test);
  }

  private static void run(int left, Test test) {
    TraceFullTest made = new TraceFullTest(left);
    test.run(made);
    made.x.keptToCalls();
    made.x.compareAll();
  }

  private int fn(int a, int b) {
    return x.type(2, a, b);
  }

  /**
   * A beta step over functions of many types, of which copies are made with other types: a copy's
   * terms and types are all new, and a step that names it brings them into the trace.
   */
  private void fill(int left) {
    int base = fn(x.typeVariable(0), x.typeVariable(1));
    int step = fn(base, base);
    int[] others = new int[9];
    for (int i = 0; i < others.length; i++) {
      others[i] = x.typeVariable(100 + i);
    }
    int w = x.free(1, base);
    int chain = w;
    for (int end : new int[] {base, truths, others[0], others[1], others[2]}) {
      int wide = end;
      for (int i = 0; i < 20; i++) {
        wide = fn(base, wide);
      }
      chain = x.apply(x.apply(x.free(2, fn(wide, step)), x.free(3, wide)), chain);
    }
    for (int i = 0; i < 45; i++) {
      chain = x.apply(x.free(10 + i, step), chain);
    }
    int a = x.beta(x.apply(x.abstraction(w, chain), w));
    int unused = x.free(2, truths);
    for (int i = 0; i < 81 && room() - left >= 939; i++) {
      int copy = x.retype(a, 0, others[i / 9], 1, others[i % 9]);
      x.put(cheap, unused, x.conclusion(copy));
    }
    x.put(cheap, w, chain);
    fillExactly(left);
  }

  private int room() {
    return 60000 - x.plain.traced();
  }

  /** By steps of 4, 3 and 2 numbers. */
  private void fillExactly(int left) {
    boolean taken = true;
    while (taken && (room() - left >= 6 || room() - left == 4)) {
      taken = x.put(cheap, v, v) >= 0;
    }
    if ((room() - left) % 2 == 1) {
      x.trans(cheap, cheap);
    }
    if (room() - left == 2) {
      x.refl(v);
    }
  }

  private void refused(String what, int got) {
    Check.same(x.name + ", " + what + " is refused", Twin.STATE, got);
  }

  private void fine(String what, int got) {
    Check.same(x.name + ", " + what + " is taken", true, got >= 0);
  }

  /** The step is taken back, so that as many numbers are left as before. */
  private void fineAndCut(String what, int got) {
    fine(what, got);
    Check.same(x.name + ", " + what + ", none left", 60000, x.traced());
    x.cut(got);
  }

  private void everyStepIsRefused() {
    twoNumbersAreRefused();
    threeNumbersAreRefused();
    refused("19", x.put(cheap, v, v));
    fiveNumbersAreRefused();
    refused("20: two", x.retype(cheap, 0, truths, 1, truths));
    Check.same(x.name, 60000, x.traced());
  }

  private void twoNumbersAreRefused() {
    refused("11", x.refl(v));
    refused("15", x.beta(idv));
    refused("16", x.assume(v));
    refused("21", x.define(id));
    refused("22", x.defineType(idIsId));
    refused("23", x.axiom(0));
  }

  private void twoNumbersAreTaken() {
    fineAndCut("11", x.refl(v));
    fineAndCut("15", x.beta(idv));
    fineAndCut("16", x.assume(v));
    fineAndCut("23", x.axiom(0));
  }

  private void threeNumbersAreRefused() {
    refused("12", x.trans(cheap, cheap));
    refused("13", x.applied(fIsF, cheap));
    refused("14", x.abstracted(v, cheap));
    refused("17", x.equal(cheap, supposed));
    refused("18", x.antisym(cheap, cheap));
  }

  /** What a refused step would have written leaves the room for another one. */
  private void refusedNumbersDoNotCount() {
    refused("11: and an entry", x.refl(other));
    refused("12", x.trans(cheap, cheap));
    Check.same(x.name, 59998, x.traced());
    fineAndCut("11", x.refl(v));
    refused("19: and an entry", x.put(cheap, other, other));
    fine("28", x.cut(x.plain.size() - 2));
    fine("11: and an entry, after a cut", x.refl(other));
  }

  private void threeNumbersAreTaken() {
    fineAndCut("12", x.trans(cheap, cheap));
    fineAndCut("13", x.applied(fIsF, cheap));
    fineAndCut("14", x.abstracted(v, cheap));
    fineAndCut("17", x.equal(cheap, supposed));
    fineAndCut("18", x.antisym(cheap, cheap));
  }

  private void fiveNumbersAreRefused() {
    refused("20: one", x.retype(cheap, 0, truths, 0, truths));
    refused("11: and an entry", x.refl(other));
  }

  private void fiveNumbersAreTaken() {
    fineAndCut("20: one", x.retype(cheap, 0, truths, 0, truths));
    fineAndCut("11: and an entry", x.refl(other));
  }

  private void comesFirst(String what, int exception, int got) {
    Check.same(x.name + ", " + what + " comes first", exception, got);
  }

  private void otherExceptionsComeFirst() {
    comesFirst("11", Twin.INDEX, x.refl(-1));
    comesFirst("12", Twin.INDEX, x.trans(cheap, 999));
    comesFirst("12", Twin.ARGUMENT, x.trans(cheap, fIsF));
    comesFirst("13", Twin.INDEX, x.applied(999, cheap));
    comesFirst("13", Twin.ARGUMENT, x.applied(cheap, cheap));
    comesFirst("14", Twin.INDEX, x.abstracted(-1, cheap));
    comesFirst("14", Twin.ARGUMENT, x.abstracted(id, cheap));
    comesFirst("15", Twin.INDEX, x.beta(-1));
    comesFirst("15", Twin.ARGUMENT, x.beta(id));
    comesFirst("16", Twin.INDEX, x.assume(-1));
    comesFirst("16", Twin.ARGUMENT, x.assume(id));
    comesFirst("17", Twin.INDEX, x.equal(cheap, -1));
    comesFirst("17", Twin.ARGUMENT, x.equal(cheap, cheap));
    comesFirst("18", Twin.INDEX, x.antisym(-1, cheap));
    comesFirst("19", Twin.INDEX, x.put(cheap, v, -1));
    comesFirst("19", Twin.ARGUMENT, x.put(cheap, v, id));
    comesFirst("20", Twin.INDEX, x.retype(cheap, 0, truths, 0, -1));
    comesFirst("20", Twin.ARGUMENT, x.retype(cheap, -1, truths, 0, truths));
    comesFirst("21", Twin.INDEX, x.define(-1));
    comesFirst("21", Twin.ARGUMENT, x.define(v));
    comesFirst("22", Twin.INDEX, x.defineType(-1));
    comesFirst("22", Twin.ARGUMENT, x.defineType(cheap));
    comesFirst("23", Twin.ARGUMENT, x.axiom(-1));
    Check.same(x.name, 60000, x.traced());
  }

  private void otherCallsAreTaken() {
    fine("2", x.typeVariable(5));
    fine("4", x.free(5, truths));
    fine("6", x.apply(f, v));
    fine("24", x.conclusion(cheap));
    fine("30: the last number", x.trace(59999));
    comesFirst("30: behind the last", Twin.INDEX, x.trace(60000));
    fine("28", x.cut(x.plain.size() - 1));
    fine("23: there is room again", x.axiom(0));
  }
}
