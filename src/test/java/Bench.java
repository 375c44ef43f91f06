/** An object with types, terms and sequents in it, the same each time that it is made. */
final class Bench {
  final Twin x;
  /** What a script has made for the call that is tried. */
  int made = -1;

  final int truths;
  final int things;
  final int any;
  final int one;
  final int two;
  final int wide;

  final int p;
  final int q;
  final int u;
  final int thing;
  final int f;
  final int equality;
  final int id;
  final int fp;
  final int idp;
  final int idc;
  final int idfp;
  final int pq;
  final int w;
  final int truth;
  final int c;
  final int hidden;

  final int infinity;
  final int idIsId;
  final int definition;
  final int alone;
  final int pIsP;
  final int supposedP;
  final int supposedQ;
  final int supposedPq;
  final int supposedTruth;
  final int fIsF;
  final int both;
  final int three;

  Bench(String name) {
    x = new Twin(name);
    truths = x.type(0, 0, 0);
    things = x.type(1, 0, 0);
    any = x.typeVariable(0);
    one = x.type(2, truths, truths);
    two = x.type(2, truths, one);
    wide = wideType();
    p = x.free(0, truths);
    q = x.free(1, truths);
    u = x.free(0, any);
    thing = x.free(0, things);
    f = x.free(0, one);
    equality = x.constant(0, two);
    id = x.abstraction(p, p);
    fp = x.apply(f, p);
    idp = x.apply(id, p);
    pq = x.apply(x.apply(equality, p), q);
    w = x.free(0, wide);
    infinity = x.axiom(2);
    idIsId = x.refl(id);
    truth = x.conclusion(idIsId);
    definition = x.define(truth);
    c = x.constant(2, truths);
    idc = x.apply(id, c);
    idfp = x.apply(id, fp);
    alone = x.equal(turned(definition, c), idIsId);
    pIsP = x.refl(p);
    supposedP = x.assume(p);
    supposedQ = x.assume(q);
    supposedPq = x.assume(pq);
    supposedTruth = x.assume(truth);
    fIsF = x.refl(f);
    both = x.antisym(supposedP, supposedQ);
    int anyId = x.abstraction(u, u);
    hidden = x.conclusion(x.refl(anyId));
    int v1 = x.free(1, x.typeVariable(1));
    int v2 = x.free(2, x.typeVariable(2));
    three = x.refl(x.abstraction(v1, x.abstraction(v2, anyId)));
  }

  /** A type with 63 symbols. */
  private int wideType() {
    int t = one;
    for (int symbols = 3; symbols < 63; symbols = 2 * symbols + 1) {
      t = x.type(2, t, t);
    }
    return t;
  }

  /** From |- l = r with l and r of truths the sequent |- r = l. */
  int turned(int a, int l) {
    int half = x.applied(x.refl(equality), a);
    int same = x.refl(l);
    return x.equal(x.applied(half, same), same);
  }

  /** A conclusion that has no hypotheses, under those of another sequent. */
  int under(int said, int supposing) {
    int there = x.antisym(said, supposing);
    int back = x.antisym(supposing, said);
    return x.equal(back, x.equal(there, said));
  }

  int types() {
    return x.plain.typeHandles.size();
  }

  int terms() {
    return x.plain.termHandles.size();
  }

  int sequents() {
    return x.plain.size();
  }

  int constants() {
    return x.plain.constants.size();
  }

  int constructors() {
    return x.plain.constructors.size();
  }

  /** Makes the call until it is refused. */
  private static void untilRefused(Check.Call call) {
    int calls = 0;
    while (call.answer() >= 0 && calls < 512) {
      calls++;
    }
  }

  /** Makes the call as long as there is so much room. */
  private static void whileRoom(int need, Check.Call room, Check.Call call) {
    boolean taken = true;
    while (taken && room.answer() >= need) {
      taken = call.answer() >= 0;
    }
  }

  /** Takes the room that there is for symbols of sequents, but for so many. */
  void fillSequents(int left) {
    whileRoom(left + 483, x.plain::roomForSequents, () -> x.axiom(2));
    whileRoom(left + 7, x.plain::roomForSequents, () -> x.refl(id));
    whileRoom(left + 1, x.plain::roomForSequents, () -> x.put(alone, p, p));
  }

  void fillTerms(int left) {
    whileRoom(left + 483, x.plain::roomForTerms, () -> x.conclusion(infinity));
    whileRoom(left + 7, x.plain::roomForTerms, () -> x.conclusion(idIsId));
    whileRoom(left + 1, x.plain::roomForTerms, () -> x.free(0, truths));
  }

  void fillTypes(int left) {
    whileRoom(left + 63, x.plain::roomForTypes, () -> x.typeOf(w));
    whileRoom(left + 3, x.plain::roomForTypes, () -> x.typeOf(id));
    whileRoom(left + 1, x.plain::roomForTypes, () -> x.typeOf(p));
  }

  void fillConstants(int left) {
    whileRoom(left + 1, () -> 200 - constants(), () -> x.define(id));
  }

  void fillConstructors(int left) {
    whileRoom(left + 1, () -> 40 - constructors(), () -> x.defineType(idIsId));
  }

  void tellRoomForSequents() {
    untilRefused(() -> x.axiom(2));
    untilRefused(() -> x.refl(id));
    untilRefused(() -> x.put(alone, p, p));
  }

  void tellRoomForTerms() {
    untilRefused(() -> x.conclusion(infinity));
    untilRefused(() -> x.conclusion(idIsId));
    untilRefused(() -> x.free(0, truths));
  }

  void tellRoomForTypes() {
    untilRefused(() -> x.typeOf(w));
    untilRefused(() -> x.typeOf(id));
    untilRefused(() -> x.typeOf(p));
  }

  void tellRoomForConstants() {
    untilRefused(() -> x.define(id));
  }

  void tellRoomForConstructors() {
    untilRefused(() -> x.defineType(idIsId));
  }

  /** What there is, as far as calls tell it that change nothing. */
  void look() {
    x.size();
    int traced = x.traced();
    for (int i = Math.max(0, traced - 150); i < traced; i++) {
      x.trace(i);
    }
    x.trace(traced);
    for (int a = Math.max(0, sequents() - 20); a <= sequents(); a++) {
      x.hypotheses(a);
    }
    x.symbol(terms() - 1, 0);
    x.symbol(terms(), 0);
  }

  /** What each call that makes something answers next. */
  void goOn() {
    x.typeVariable(7);
    x.type(0, 0, 0);
    x.typeOf(p);
    x.free(7, truths);
    x.constant(0, two);
    x.apply(f, p);
    x.abstraction(q, p);
    x.conclusion(alone);
    x.hypothesis(both, 1);
    x.refl(fp);
    x.assume(fp);
    x.retype(infinity, 3, any, 4, things);
    x.define(id);
    lookAtLast(3);
    x.constant(constants() - 1, one);
    x.constant(constants(), one);
    x.defineType(idIsId);
    lookAtLast(13);
    x.type(constructors() - 1, 0, 0);
    x.type(constructors(), 0, 0);
    x.size();
    int traced = x.traced();
    for (int i = Math.max(0, traced - 60); i < traced; i++) {
      x.trace(i);
    }
  }

  /** A symbol of the last conclusion, by which its new constants can be told. */
  private void lookAtLast(int i) {
    x.conclusion(sequents() - 1);
    x.symbol(terms() - 1, i);
  }
}
