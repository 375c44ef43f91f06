/**
 * The limit of 8000 different types: each call that makes new ones, and those that do not. An
 * object comes near the limit in some 350 calls, so that each test makes its own.
 */
public final class TypesFullTest {
  private final Twin x;
  private final int truths;
  private final int any;
  private final int sets;
  private final int v;
  private final int u;
  private final int set;
  private final int id;
  private final int anyId;
  private final int twice;
  private final int idv;
  private final int anyIdu;
  private final int uIsU;
  private final int setIsSet;
  private final int anyIdIsAnyId;
  private final int holds;
  private int wideTerm = -1;
  private int unused = 5;

  private TypesFullTest(int left) {
    x = new Twin(left + " different types left");
    truths = x.type(0, 0, 0);
    any = x.typeVariable(0);
    sets = x.type(2, any, truths);
    v = x.free(0, truths);
    u = x.free(0, any);
    set = x.free(0, sets);
    id = x.abstraction(v, v);
    anyId = x.abstraction(u, u);
    twice = x.abstraction(u, id);
    idv = x.apply(id, v);
    anyIdu = x.apply(anyId, u);
    uIsU = x.refl(u);
    setIsSet = x.refl(set);
    anyIdIsAnyId = x.refl(anyId);
    holds = x.assume(x.apply(set, u));
    fill(left);
    Check.same(x.name, left, room());
  }

  public static void main(String[] args) {
    run(0, TypesFullTest::newTypesAreRefused);
    run(0, TypesFullTest::oldTypesAreTaken);
    run(0, TypesFullTest::otherExceptionsComeFirst);
    run(1, TypesFullTest::oneNewTypeIsTaken);
    run(1, TypesFullTest::twoNewTypesAreRefused);
    run(2, t -> t.fine("11: two new types", t.x.refl(t.v)));
    run(2, t -> t.fine("18: two new types", t.x.antisym(t.holds, t.holds)));
    run(1, t -> t.fine("6: an application's own type", t.x.apply(t.twice, t.u)));
    run(1, t -> t.fine("8: one new type", t.x.typeOf(t.id)));
    run(0, TypesFullTest::typesOfWhatIsNoMoreCount);
    run(1, TypesFullTest::refusedTypesDoNotCount);
    run(1, TypesFullTest::refusedTermsTypesDoNotCount);
    run(2, TypesFullTest::refusedSequentsTypesDoNotCount);
    Check.done();
  }

  private interface Test {
    void run(TypesFullTest test);
  }

  private static void run(int left, Test test) {
    TypesFullTest made = new TypesFullTest(left);
    test.run(made);
    made.x.keptToCalls();
    made.x.compareAll();
  }

  private int room() {
    return 8000 - x.plain.countedTypes();
  }

  /** A type variable that has not been there. */
  private int newType() {
    unused++;
    return x.typeVariable(unused);
  }

  /** A term over wide types with 'a in each part, retyped until there is no room for more. */
  private void fill(int left) {
    int wide = truths;
    for (int j = 1; j <= 4; j++) {
      int chain = x.typeVariable(j);
      for (int k = 0; k < 17; k++) {
        chain = x.type(2, any, chain);
      }
      wide = j == 1 ? chain : x.type(2, chain, wide);
    }
    wideTerm = x.free(2, wide);
    int a = x.assume(x.apply(x.free(1, x.type(2, wide, truths)), wideTerm));
    int step = retyped(a);
    while (step > 0 && room() - step >= left) {
      step = retyped(a);
    }
    boolean taken = true;
    while (taken && room() > left) {
      taken = newType() >= 0;
    }
  }

  /** How many types are new then. */
  private int retyped(int a) {
    int before = room();
    int t = newType();
    x.retype(a, 0, t, 0, t);
    return before - room();
  }

  private void refused(String what, int got) {
    Check.same(x.name + ", " + what + " is refused", Twin.STATE, got);
  }

  private void fine(String what, int got) {
    Check.same(x.name + ", " + what + " is taken", true, got >= 0);
  }

  private void comesFirst(String what, int exception, int got) {
    Check.same(x.name + ", " + what + " comes first", exception, got);
  }

  private void newTypesAreRefused() {
    refused("2", newType());
    refused("3", x.type(2, truths, truths));
    refused("3: the same again", x.type(2, truths, truths));
    refused("3: a constructor without types", x.type(1, 0, 0));
    refused("6: an application's own type", x.apply(twice, u));
    refused("8", x.typeOf(id));
    refused("11", x.refl(v));
    refused("13", x.applied(setIsSet, uIsU));
    refused("14", x.abstracted(v, uIsU));
    refused("15", x.beta(idv));
    refused("18", x.antisym(holds, holds));
    refused("20", x.retype(uIsU, 0, truths, 0, truths));
    refused("21", x.define(id));
    refused("22", x.defineType(anyIdIsAnyId));
    refused("23: axiom 0", x.axiom(0));
    refused("23: axiom 1", x.axiom(1));
    refused("23: axiom 2", x.axiom(2));
    Check.same(x.name + ", no new constructor", Twin.ARGUMENT, x.type(3, 0, 0));
    Check.same(x.name + ", no new constant", Twin.ARGUMENT, x.constant(2, truths));
  }

  private void oldTypesAreTaken() {
    fine("2", x.typeVariable(unused));
    fine("3: of a constant's own type", x.type(2, any, sets));
    fine("3: what the other constant's takes", x.type(2, any, truths));
    fine("4", x.free(7, truths));
    fine("5", x.constant(0, x.plain.typeHandles.size() - 2));
    fine("6", x.apply(id, v));
    fine("7: an abstraction's own type does not count", x.abstraction(v, u));
    fine("8", x.typeOf(anyId));
    fine("11", x.refl(u));
    fine("12", x.trans(uIsU, uIsU));
    fine("14", x.abstracted(u, uIsU));
    fine("15", x.beta(anyIdu));
    fine("16", x.assume(v));
    fine("19", x.put(uIsU, u, anyIdu));
    fine("20", x.retype(uIsU, 0, any, 0, any));
    fine("21", x.define(anyId));
    fine("24", x.conclusion(uIsU));
    fine("26", x.hypothesis(holds, 0));
  }

  private void otherExceptionsComeFirst() {
    comesFirst("2", Twin.ARGUMENT, x.typeVariable(1000));
    comesFirst("3", Twin.ARGUMENT, x.type(3, -1, -1));
    comesFirst("3", Twin.INDEX, x.type(2, truths, -1));
    comesFirst("6", Twin.ARGUMENT, x.apply(twice, v));
    comesFirst("6", Twin.INDEX, x.apply(twice, -1));
    comesFirst("8", Twin.INDEX, x.typeOf(-1));
    comesFirst("11", Twin.INDEX, x.refl(-1));
    comesFirst("13", Twin.ARGUMENT, x.applied(setIsSet, setIsSet));
    comesFirst("14", Twin.ARGUMENT, x.abstracted(id, uIsU));
    comesFirst("15", Twin.ARGUMENT, x.beta(id));
    comesFirst("18", Twin.INDEX, x.antisym(holds, 999));
    comesFirst("20", Twin.ARGUMENT, x.retype(uIsU, 0, truths, 0, any));
    comesFirst("21", Twin.ARGUMENT, x.define(v));
    comesFirst("22", Twin.ARGUMENT, x.defineType(uIsU));
    comesFirst("23", Twin.ARGUMENT, x.axiom(3));
  }

  private void oneNewTypeIsTaken() {
    fine("2: the 8000th type", newType());
    refused("2: the 8001st type", newType());
  }

  /** Each needs two; the first of them does not count then. */
  private void twoNewTypesAreRefused() {
    refused("11", x.refl(v));
    refused("15", x.beta(idv));
    refused("18", x.antisym(holds, holds));
    refused("23", x.axiom(0));
    fine("2: the 8000th type", newType());
    refused("3: the 8001st type", x.type(2, truths, truths));
  }

  /** Types that only a call had that another limit refused: they do not count. */
  private void refusedTypesDoNotCount() {
    takeRoomForTypes();
    refused("3: no room for symbols", x.type(1, 0, 0));
    refused("8: no room for symbols", x.typeOf(id));
    fine("6: the 8000th type", x.apply(twice, u));
    refused("11: the 8001st type", x.refl(v));
  }

  private void refusedTermsTypesDoNotCount() {
    takeRoomForTerms();
    refused("6: no room for symbols", x.apply(twice, u));
    fine("2: the 8000th type", newType());
    refused("2: the 8001st type", newType());
  }

  private void refusedSequentsTypesDoNotCount() {
    takeRoomForSequents();
    refused("11: no room for symbols", x.refl(v));
    refused("20: no room for symbols", x.retype(uIsU, 0, truths, 0, truths));
    fine("2: the 7999th type", newType());
    fine("2: the 8000th type", newType());
    refused("2: the 8001st type", newType());
  }

  /** Makes the call as long as there is so much room. */
  private void whileRoom(int need, Check.Call room, Check.Call call) {
    boolean taken = true;
    while (taken && room.answer() >= need) {
      taken = call.answer() >= 0;
    }
  }

  private void takeRoomForTypes() {
    whileRoom(143, x.plain::roomForTypes, () -> x.typeOf(wideTerm));
    whileRoom(3, x.plain::roomForTypes, () -> x.typeOf(set));
    whileRoom(1, x.plain::roomForTypes, () -> x.typeOf(v));
  }

  private void takeRoomForTerms() {
    int[] big = bigEquations();
    whileRoom(605, x.plain::roomForTerms, () -> x.conclusion(big[5]));
    whileRoom(125, x.plain::roomForTerms, () -> x.conclusion(big[1]));
    whileRoom(7, x.plain::roomForTerms, () -> x.conclusion(anyIdIsAnyId));
    whileRoom(1, x.plain::roomForTerms, () -> x.free(3, truths));
  }

  /** But for less than 5, which an equation needs. */
  private void takeRoomForSequents() {
    int[] big = bigEquations();
    whileRoom(605, x.plain::roomForSequents, () -> x.put(big[5], v, v));
    whileRoom(125, x.plain::roomForSequents, () -> x.put(big[1], v, v));
    whileRoom(5, x.plain::roomForSequents, () -> x.refl(u));
  }

  /** |- t = t, with 20 identities of 'a in t for each step: no type in it is new. */
  private int[] bigEquations() {
    int t = u;
    for (int i = 0; i < 20; i++) {
      t = x.apply(anyId, t);
    }
    int[] made = new int[6];
    made[0] = uIsU;
    for (int i = 1; i < made.length; i++) {
      made[i] = x.put(made[i - 1], u, t);
    }
    return made;
  }

  private void typesOfWhatIsNoMoreCount() {
    fine("28", x.cut(1));
    refused("2", newType());
    refused("11", x.refl(v));
    fine("8: an old type", x.typeOf(anyId));
  }
}
