import java.util.Arrays;

/**
 * The kernel of a proof assistant for higher-order logic. Each type and each term is held once, so
 * that what is the same has the same number inside. A call that a limit refuses is undone whole.
 */
public final class SequentMill {
  /** No number at all; also what a making answers when a limit refuses it. */
  private static final int NONE = -1;

  /** How many numbers there are for free variables, and how many for type variables. */
  private static final int NAMES = 1000;

  private static final int APPLICATION = -1;
  private static final int ABSTRACTION = -2;

  /** A leaf's sign is four times its number and one of these. */
  private static final int BOUND_MARK = 0;
  private static final int FREE_MARK = 1;
  private static final int CONSTANT_MARK = 2;

  private static final int TRUTHS = 0;
  private static final int THINGS = 1;
  private static final int FUNCTIONS = 2;

  private static final int EQUALITY = 0;
  private static final int CHOICE = 1;

  private static final int REFL = 0;
  private static final int TRANS = 1;
  private static final int APPLIED = 2;
  private static final int ABSTRACTED = 3;
  private static final int BETA = 4;
  private static final int ASSUME = 5;
  private static final int EQUAL = 6;
  private static final int ANTISYM = 7;
  private static final int PUT = 8;
  private static final int RETYPE = 9;
  private static final int DEFINE = 10;
  private static final int DEFINE_TYPE = 11;
  private static final int AXIOM = 12;

  private static final int MOST_TYPE_SYMBOLS = 200;
  private static final int MOST_TYPE_HEIGHT = 24;
  private static final int MOST_TERM_SYMBOLS = 4000;
  private static final int MOST_TERM_HEIGHT = 120;
  private static final int MOST_SEQUENTS = 1000;
  private static final int MOST_HYPOTHESES = 60;
  private static final int MOST_SEQUENT_SYMBOLS = 20000;
  private static final int MOST_TERM_HANDLE_SYMBOLS = 20000;
  private static final int MOST_TYPE_HANDLE_SYMBOLS = 6000;
  private static final int MOST_TYPES = 8000;
  private static final int MOST_CONSTANTS = 200;
  private static final int MOST_CONSTRUCTORS = 40;
  private static final int MOST_TRACED = 60000;

  /**
   * Each term inside is a part of a handle's term or of a sequent, but for a few hundred that the
   * axioms are built from: where this is reached, a limit on symbols is passed already.
   */
  private static final int MOST_TERMS = MOST_SEQUENT_SYMBOLS + MOST_TERM_HANDLE_SYMBOLS + 1000;

  private final Types types = new Types();
  private final Terms terms = new Terms(types);
  private final Rewriting rewriting = new Rewriting(types, terms);
  private final Logic logic = new Logic(types, terms, rewriting);
  private final Trace trace = new Trace(types.store, terms.store);
  private final Sequents sequents = new Sequents(terms.store);
  private final Handles typeHandles = new Handles(MOST_TYPE_HANDLE_SYMBOLS);
  private final Handles termHandles = new Handles(MOST_TERM_HANDLE_SYMBOLS);

  public SequentMill() {
    settle();
  }

  public int typeVariable(int n) throws IllegalArgumentException, IllegalStateException {
    if (isNoName(n)) {
      throw new IllegalArgumentException("a type variable is 0 .. 999");
    }
    return answerType(types.variable(n));
  }

  public int type(int constructor, int a, int b)
      throws IllegalArgumentException, IndexOutOfBoundsException, IllegalStateException {
    if (!types.hasConstructor(constructor)) {
      throw new IllegalArgumentException("no such constructor");
    }
    int takes = types.takesOf(constructor);
    int first = takes > 0 ? typeAt(a) : NONE;
    int second = takes > 1 ? typeAt(b) : NONE;
    return answerType(types.built(constructor, first, second));
  }

  public int free(int n, int type)
      throws IndexOutOfBoundsException, IllegalArgumentException, IllegalStateException {
    int ofType = typeAt(type);
    if (isNoName(n)) {
      throw new IllegalArgumentException("a free variable is 0 .. 999");
    }
    return answerTerm(terms.leaf(FREE_MARK, n, ofType));
  }

  public int constant(int c, int type)
      throws IndexOutOfBoundsException, IllegalArgumentException, IllegalStateException {
    int ofType = typeAt(type);
    if (!terms.hasConstant(c) || !types.canBecome(terms.constantType(c), ofType)) {
      throw new IllegalArgumentException("no such constant of that type");
    }
    return answerTerm(terms.leaf(CONSTANT_MARK, c, ofType));
  }

  public int apply(int f, int x)
      throws IndexOutOfBoundsException, IllegalArgumentException, IllegalStateException {
    int function = termAt(f);
    int argument = termAt(x);
    if (!terms.isApplicable(function, argument)) {
      throw new IllegalArgumentException("f is not of functions from x's type");
    }
    return answerTerm(terms.application(function, argument));
  }

  public int abstraction(int v, int body)
      throws IndexOutOfBoundsException, IllegalArgumentException, IllegalStateException {
    int variable = termAt(v);
    int inside = termAt(body);
    if (!terms.isFree(variable)) {
      throw new IllegalArgumentException("v is no free variable");
    }
    return answerTerm(rewriting.bound(variable, inside));
  }

  public int typeOf(int t) throws IndexOutOfBoundsException, IllegalStateException {
    return answerType(terms.ownType(termAt(t)));
  }

  public int symbol(int t, int i) throws IndexOutOfBoundsException {
    int term = termAt(t);
    if (i < 0 || i >= terms.store.symbolsOf(term)) {
      throw new IndexOutOfBoundsException("no such symbol");
    }
    return terms.signAt(term, i);
  }

  public boolean same(int t, int u) throws IndexOutOfBoundsException {
    return termAt(t) == termAt(u);
  }

  public int refl(int t) throws IndexOutOfBoundsException, IllegalStateException {
    int term = termAt(t);
    trace.step(REFL, trace.termEntry(term));
    sequents.begin();
    sequents.conclude(logic.equation(term, term));
    return finish(false);
  }

  public int trans(int a, int b)
      throws IndexOutOfBoundsException, IllegalArgumentException, IllegalStateException {
    int p = conclusionAt(a);
    int q = conclusionAt(b);
    if (!terms.isEquation(p) || !terms.isEquation(q) || terms.rightSide(p) != terms.leftSide(q)) {
      throw new IllegalArgumentException("not s = t and t = u");
    }
    trace.step(TRANS, a, b);
    beginJoined(a, b);
    sequents.conclude(logic.equation(terms.leftSide(p), terms.rightSide(q)));
    return finish(false);
  }

  public int applied(int a, int b)
      throws IndexOutOfBoundsException, IllegalArgumentException, IllegalStateException {
    int p = conclusionAt(a);
    int q = conclusionAt(b);
    if (!terms.isEquation(p) || !terms.isEquation(q)
        || !terms.isApplicable(terms.leftSide(p), terms.leftSide(q))) {
      throw new IllegalArgumentException("not f = g and x = y with f of functions from x's type");
    }
    trace.step(APPLIED, a, b);
    beginJoined(a, b);
    int left = terms.application(terms.leftSide(p), terms.leftSide(q));
    int right = terms.application(terms.rightSide(p), terms.rightSide(q));
    sequents.conclude(logic.equation(left, right));
    return finish(false);
  }

  public int abstracted(int v, int a)
      throws IndexOutOfBoundsException, IllegalArgumentException, IllegalStateException {
    int variable = termAt(v);
    int p = conclusionAt(a);
    if (!terms.isFree(variable) || !terms.isEquation(p) || isInHypothesis(variable, a)) {
      throw new IllegalArgumentException("not s = t and a free variable that is in no hypothesis");
    }
    trace.step(ABSTRACTED, trace.termEntry(variable), a);
    sequents.begin();
    sequents.supposeAllBut(NONE, a);
    int left = rewriting.bound(variable, terms.leftSide(p));
    int right = rewriting.bound(variable, terms.rightSide(p));
    sequents.conclude(logic.equation(left, right));
    return finish(false);
  }

  public int beta(int t)
      throws IndexOutOfBoundsException, IllegalArgumentException, IllegalStateException {
    int term = termAt(t);
    if (!terms.isAbstractionToFree(term)) {
      throw new IllegalArgumentException("no application of an abstraction to a free variable");
    }
    trace.step(BETA, trace.termEntry(term));
    sequents.begin();
    sequents.conclude(logic.equation(term, rewriting.opened(term)));
    return finish(false);
  }

  public int assume(int t)
      throws IndexOutOfBoundsException, IllegalArgumentException, IllegalStateException {
    int term = termAt(t);
    if (!terms.isOf(term, types.truths)) {
      throw new IllegalArgumentException("not of truths");
    }
    trace.step(ASSUME, trace.termEntry(term));
    sequents.begin();
    sequents.suppose(term);
    sequents.conclude(term);
    return finish(false);
  }

  public int equal(int a, int b)
      throws IndexOutOfBoundsException, IllegalArgumentException, IllegalStateException {
    int p = conclusionAt(a);
    int q = conclusionAt(b);
    if (!terms.isEquation(p) || terms.leftSide(p) != q) {
      throw new IllegalArgumentException("not p = q and p");
    }
    trace.step(EQUAL, a, b);
    beginJoined(a, b);
    sequents.conclude(terms.rightSide(p));
    return finish(false);
  }

  public int antisym(int a, int b) throws IndexOutOfBoundsException, IllegalStateException {
    int p = conclusionAt(a);
    int q = conclusionAt(b);
    trace.step(ANTISYM, a, b);
    sequents.begin();
    sequents.supposeAllBut(q, a);
    sequents.supposeAllBut(p, b);
    sequents.conclude(logic.equation(p, q));
    return finish(false);
  }

  public int put(int a, int v, int t)
      throws IndexOutOfBoundsException, IllegalArgumentException, IllegalStateException {
    requireSequent(a);
    int variable = termAt(v);
    int term = termAt(t);
    if (!terms.isFree(variable) || !terms.isOf(term, terms.store.writtenType(variable))) {
      throw new IllegalArgumentException("not a free variable and a term of its type");
    }
    int variableEntry = trace.termEntry(variable);
    int termEntry = trace.termEntry(term);
    trace.step(PUT, a, variableEntry);
    trace.write(termEntry);
    rewriting.startPut(variable, term);
    draftRewritten(a);
    return finish(false);
  }

  public int retype(int a, int n, int t, int m, int u)
      throws IndexOutOfBoundsException, IllegalArgumentException, IllegalStateException {
    requireSequent(a);
    int first = typeAt(t);
    int second = typeAt(u);
    if (isNoName(n) || isNoName(m) || (n == m && first != second)) {
      throw new IllegalArgumentException("not two type variables with a type for each");
    }
    traceRetype(a, n, first, m, second);
    rewriting.startRetype(n, first, m, second);
    draftRewritten(a);
    return finish(false);
  }

  public int define(int t)
      throws IndexOutOfBoundsException, IllegalArgumentException, IllegalStateException {
    int term = termAt(t);
    if (terms.hasFree(term) || terms.hasTypeVariableBesideItsType(term)) {
      throw new IllegalArgumentException("a free variable, or a type variable not in the type");
    }
    trace.step(DEFINE, trace.termEntry(term));
    int fresh = terms.addConstant(terms.ownType(term));
    sequents.begin();
    sequents.conclude(logic.equation(fresh, term));
    return finish(true);
  }

  public int defineType(int a)
      throws IndexOutOfBoundsException, IllegalArgumentException, IllegalStateException {
    int p = conclusionAt(a);
    int predicate = terms.functionOf(p);
    if (sequents.hypothesisCount(a) > 0 || predicate < 0 || terms.hasFree(predicate)
        || terms.typeVariableCount(predicate) > 2) {
      throw new IllegalArgumentException("no P x without hypotheses that a type can be made of");
    }
    trace.step(DEFINE_TYPE, a);
    int old = terms.argumentType(predicate);
    int made = types.addConstructorOfListed();
    int to = terms.addConstant(types.functions(old, made));
    int fro = terms.addConstant(types.functions(made, old));
    sequents.begin();
    sequents.conclude(logic.madeComesBack(made, to, fro));
    sequents.concludeAlso(logic.oldComesBack(predicate, old, to, fro));
    return finish(true);
  }

  public int axiom(int k) throws IllegalArgumentException, IllegalStateException {
    if (k < 0 || k > 2) {
      throw new IllegalArgumentException("an axiom is 0 .. 2");
    }
    trace.step(AXIOM, k);
    sequents.begin();
    sequents.conclude(k == 0 ? logic.eta() : k == 1 ? logic.chosen() : logic.infinity());
    return finish(false);
  }

  public int conclusion(int a) throws IndexOutOfBoundsException, IllegalStateException {
    return answerTerm(conclusionAt(a));
  }

  public int hypotheses(int a) throws IndexOutOfBoundsException {
    requireSequent(a);
    return sequents.hypothesisCount(a);
  }

  public int hypothesis(int a, int i) throws IndexOutOfBoundsException, IllegalStateException {
    requireSequent(a);
    if (i < 0 || i >= sequents.hypothesisCount(a)) {
      throw new IndexOutOfBoundsException("no such hypothesis");
    }
    return answerTerm(sequents.hypothesisOf(a, i));
  }

  public int size() {
    return sequents.count();
  }

  public void cut(int n) throws IllegalArgumentException {
    if (n < sequents.lasting() || n > sequents.count()) {
      throw new IllegalArgumentException("no such number of sequents, or a definition among them");
    }
    if (n < sequents.count()) {
      trace.keep(sequents.tracedBefore(n), sequents.typesBefore(n), sequents.termsBefore(n));
      sequents.keep(n);
      settle();
    }
  }

  public int traced() {
    return trace.length();
  }

  public int trace(int i) throws IndexOutOfBoundsException {
    if (i < 0 || i >= trace.length()) {
      throw new IndexOutOfBoundsException("no such number of the trace");
    }
    return trace.numberAt(i);
  }

  private static boolean isNoName(int n) {
    return n < 0 || n >= NAMES;
  }

  private int typeAt(int handle) {
    if (!typeHandles.has(handle)) {
      throw new IndexOutOfBoundsException("no such type");
    }
    return typeHandles.at(handle);
  }

  private int termAt(int handle) {
    if (!termHandles.has(handle)) {
      throw new IndexOutOfBoundsException("no such term");
    }
    return termHandles.at(handle);
  }

  private void requireSequent(int a) {
    if (a < 0 || a >= sequents.count()) {
      throw new IndexOutOfBoundsException("no such sequent");
    }
  }

  private int conclusionAt(int a) {
    requireSequent(a);
    return sequents.conclusionOf(a);
  }

  private boolean isInHypothesis(int variable, int a) {
    for (int i = 0; i < sequents.hypothesisCount(a); i++) {
      if (terms.contains(sequents.hypothesisOf(a, i), variable)) {
        return true;
      }
    }
    return false;
  }

  private void beginJoined(int a, int b) {
    sequents.begin();
    sequents.supposeAllBut(NONE, a);
    sequents.supposeAllBut(NONE, b);
  }

  private void draftRewritten(int a) {
    sequents.begin();
    for (int i = 0; i < sequents.hypothesisCount(a) && !sequents.isRefused(); i++) {
      sequents.suppose(rewriting.changed(sequents.hypothesisOf(a, i)));
    }
    if (!sequents.isRefused()) {
      sequents.conclude(rewriting.changed(sequents.conclusionOf(a)));
    }
  }

  private void traceRetype(int a, int n, int first, int m, int second) {
    int firstEntry = trace.typeEntry(first);
    int secondEntry = n == m ? NONE : trace.typeEntry(second);
    trace.step(RETYPE, a, n == m ? 1 : 2);
    trace.write(n);
    trace.write(firstEntry);
    if (n != m) {
      trace.write(m);
      trace.write(secondEntry);
    }
  }

  private int answerType(int type) {
    if (type < 0 || !typeHandles.hasRoom(types.store.symbolsOf(type))) {
      undo();
      throw new IllegalStateException("a limit of types");
    }
    settle();
    return typeHandles.add(type, types.store.symbolsOf(type));
  }

  private int answerTerm(int term) {
    if (term < 0 || !termHandles.hasRoom(terms.store.symbolsOf(term))) {
      undo();
      throw new IllegalStateException("a limit of terms");
    }
    settle();
    return termHandles.add(term, terms.store.symbolsOf(term));
  }

  /** Makes the drafted sequents real, or undoes all that the call has made for them. */
  private int finish(boolean lasting) {
    if (sequents.isRefused() || trace.isFull()) {
      undo();
      throw new IllegalStateException("a limit of sequents");
    }
    int number = sequents.addDraft(lasting, trace);
    settle();
    return number;
  }

  private void settle() {
    types.settle();
    terms.settle();
    trace.settle();
  }

  private void undo() {
    trace.undo();
    terms.undo();
    types.undo();
  }

  /** A row of numbers that grows. It answers NONE where it has no place. */
  private static final class Row {
    private int[] items = new int[32];
    private int count = 0;

    int count() {
      return count;
    }

    int at(int i) {
      return i >= 0 && i < count ? items[i] : NONE;
    }

    void add(int item) {
      if (count >= items.length) {
        items = Arrays.copyOf(items, 2 * count + 1);
      }
      items[count] = item;
      count++;
    }

    void keep(int n) {
      if (n >= 0 && n < count) {
        count = n;
      }
    }
  }

  /** Things made of a sign and parts, each held once: the same thing has the same number. */
  private static final class Store {
    /** Above the depths at which something may be remembered. */
    private static final int DEPTHS = 128;

    private final int mostSymbols;
    private final int mostHeight;
    private final int most;
    private final int[] heads;
    private int[] signs = new int[64];
    private int[] lefts = new int[64];
    private int[] rights = new int[64];
    private int[] writtenTypes = new int[64];
    private int[] symbols = new int[64];
    private int[] heights = new int[64];
    private int[] nexts = new int[64];
    private int[] entries = new int[64];
    private int[] stamps = new int[64];
    private int[] memos = new int[64];
    private final Row parts = new Row();
    private int count = 0;
    private int settled = 0;
    private int round = 0;

    Store(int mostSymbols, int mostHeight, int most, int headBits) {
      this.mostSymbols = mostSymbols;
      this.mostHeight = mostHeight;
      this.most = most;
      heads = new int[1 << (headBits & 15)];
      Arrays.fill(heads, NONE);
    }

    int sign(int thing) {
      return thing >= 0 && thing < count ? signs[thing] : 0;
    }

    int left(int thing) {
      return thing >= 0 && thing < count ? lefts[thing] : NONE;
    }

    int right(int thing) {
      return thing >= 0 && thing < count ? rights[thing] : NONE;
    }

    /** Of a leaf or an application its type, of an abstraction its variable's. */
    int writtenType(int thing) {
      return thing >= 0 && thing < count ? writtenTypes[thing] : NONE;
    }

    int symbolsOf(int thing) {
      return thing >= 0 && thing < count ? symbols[thing] : 0;
    }

    /** What has no parts is 1 high. */
    int heightOf(int thing) {
      return thing >= 0 && thing < count ? heights[thing] : 0;
    }

    /** The number of the thing's entry in the trace, or NONE. */
    int entryOf(int thing) {
      return thing >= 0 && thing < count ? entries[thing] : NONE;
    }

    void setEntry(int thing, int entry) {
      if (thing >= 0 && thing < count) {
        entries[thing] = entry;
      }
    }

    /** The thing's number, or NONE if it passes a limit. */
    int make(int sign, int left, int right, int type) {
      if (type < 0) {
        return NONE;
      }
      int place = placeOf(sign, left, right, type);
      int found = find(place, sign, left, right, type);
      if (found >= 0) {
        return found;
      }
      int many = 1 + symbolsOf(left) + symbolsOf(right);
      int high = 1 + Math.max(heightOf(left), heightOf(right));
      if (many > mostSymbols || high > mostHeight || count >= most) {
        return NONE;
      }
      if (count >= signs.length) {
        grow();
      }
      signs[count] = sign;
      lefts[count] = left;
      rights[count] = right;
      writtenTypes[count] = type;
      symbols[count] = many;
      heights[count] = high;
      nexts[count] = heads[place];
      entries[count] = NONE;
      stamps[count] = NONE;
      heads[place] = count;
      count++;
      return count - 1;
    }

    private int placeOf(int sign, int left, int right, int type) {
      int mixed = ((sign * 31 + left) * 8191 + right) * 8191 + type;
      mixed = (mixed ^ (mixed >>> 15)) * 739982445;
      return (mixed ^ (mixed >>> 13)) & (heads.length - 1);
    }

    private int find(int place, int sign, int left, int right, int type) {
      int thing = heads[place];
      for (int i = 0; i < count && thing >= 0 && thing < count; i++) {
        if (signs[thing] == sign && lefts[thing] == left && rights[thing] == right
            && writtenTypes[thing] == type) {
          return thing;
        }
        thing = nexts[thing];
      }
      return NONE;
    }

    private void grow() {
      int room = 2 * count + 1;
      signs = Arrays.copyOf(signs, room);
      lefts = Arrays.copyOf(lefts, room);
      rights = Arrays.copyOf(rights, room);
      writtenTypes = Arrays.copyOf(writtenTypes, room);
      symbols = Arrays.copyOf(symbols, room);
      heights = Arrays.copyOf(heights, room);
      nexts = Arrays.copyOf(nexts, room);
      entries = Arrays.copyOf(entries, room);
      stamps = Arrays.copyOf(stamps, room);
      memos = Arrays.copyOf(memos, room);
    }

    void settle() {
      settled = count;
    }

    /** Newer things stand before older ones under each head, so the newest goes first. */
    void undo() {
      for (int thing = count - 1; thing >= settled; thing--) {
        int place = placeOf(signs[thing], lefts[thing], rights[thing], writtenTypes[thing]);
        heads[place] = nexts[thing];
      }
      count = settled;
    }

    /** Forgets what has been remembered and listed. */
    void startRound() {
      round++;
      parts.keep(0);
    }

    /** What was remembered of the thing at this depth in this round, or NONE. */
    int remembered(int thing, int depth) {
      boolean known = thing >= 0 && thing < count && stamps[thing] == round * DEPTHS + depth;
      return known ? memos[thing] : NONE;
    }

    void remember(int thing, int depth, int what) {
      if (thing >= 0 && thing < count) {
        stamps[thing] = round * DEPTHS + depth;
        memos[thing] = what;
      }
    }

    /** Lists the thing, once in a round. */
    void list(int thing) {
      if (thing >= 0 && thing < count && remembered(thing, 0) < 0) {
        remember(thing, 0, thing);
        parts.add(thing);
      }
    }

    /** Lists the parts of all that is listed, and theirs. */
    void listParts() {
      for (int i = 0; i < count && i < parts.count(); i++) {
        int thing = parts.at(i);
        list(left(thing));
        list(right(thing));
      }
    }

    int listedCount() {
      return parts.count();
    }

    int listed(int i) {
      return parts.at(i);
    }
  }

  /** Types, and the constructors that they are made with. */
  private static final class Types {
    final Store store = new Store(MOST_TYPE_SYMBOLS, MOST_TYPE_HEIGHT, MOST_TYPES, 11);
    private final Row takes = new Row();
    private int settledConstructors = 0;
    final int truths;

    Types() {
      takes.add(0);
      takes.add(0);
      takes.add(2);
      truths = built(TRUTHS, NONE, NONE);
    }

    boolean hasConstructor(int constructor) {
      return constructor >= 0 && constructor < takes.count();
    }

    int takesOf(int constructor) {
      return takes.at(constructor);
    }

    int variable(int n) {
      return store.make(-1 - n, NONE, NONE, 0);
    }

    /** What the constructor does not take is not looked at; NONE for what it takes is refused. */
    int built(int constructor, int a, int b) {
      int many = takesOf(constructor);
      if (many < 0 || (many > 0 && a < 0) || (many > 1 && b < 0)) {
        return NONE;
      }
      return store.make(constructor, many > 0 ? a : NONE, many > 1 ? b : NONE, 0);
    }

    int functions(int from, int to) {
      return from < 0 || to < 0 ? NONE : store.make(FUNCTIONS, from, to, 0);
    }

    boolean isFunctions(int type) {
      return type >= 0 && store.sign(type) == FUNCTIONS;
    }

    boolean canBecome(int own, int type) {
      store.startRound();
      return becomes(own, type, 0);
    }

    /** A part that stands twice has to become the same type each time. */
    private boolean becomes(int own, int type, int level) {
      if (own < 0) {
        return true;
      }
      int known = store.remembered(own, 0);
      if (known >= 0) {
        return known == type;
      }
      store.remember(own, 0, type);
      int sign = store.sign(own);
      if (sign < 0) {
        return true;
      }
      return level < MOST_TYPE_HEIGHT && sign == store.sign(type)
          && becomes(store.left(own), store.left(type), level + 1)
          && becomes(store.right(own), store.right(type), level + 1);
    }

    int listedVariables() {
      int many = 0;
      for (int i = 0; i < store.listedCount(); i++) {
        if (store.sign(store.listed(i)) < 0) {
          many++;
        }
      }
      return many;
    }

    /** The listed variable that comes next behind another, NONE for the first, or NONE. */
    private int listedVariableBehind(int variable) {
      int next = NONE;
      for (int i = 0; i < store.listedCount(); i++) {
        int type = store.listed(i);
        int n = -1 - store.sign(type);
        boolean behind = n >= 0 && (variable < 0 || n > -1 - store.sign(variable));
        if (behind && (next < 0 || n < -1 - store.sign(next))) {
          next = type;
        }
      }
      return next;
    }

    /** A new constructor that takes the listed variables, and the type that it makes of them. */
    int addConstructorOfListed() {
      int many = listedVariables();
      if (takes.count() >= MOST_CONSTRUCTORS || many > 2) {
        return NONE;
      }
      int first = listedVariableBehind(NONE);
      int second = many > 1 ? listedVariableBehind(first) : NONE;
      takes.add(many);
      return built(takes.count() - 1, first, second);
    }

    void settle() {
      store.settle();
      settledConstructors = takes.count();
    }

    void undo() {
      store.undo();
      takes.keep(settledConstructors);
    }
  }

  /** Terms with bound variables by number, and the constants in them. */
  private static final class Terms {
    final Store store = new Store(MOST_TERM_SYMBOLS, MOST_TERM_HEIGHT, MOST_TERMS, 13);
    private final Types types;
    private final Row constantTypes = new Row();
    private int settledConstants = 0;

    Terms(Types types) {
      this.types = types;
      int any = types.variable(0);
      int sets = types.functions(any, types.truths);
      constantTypes.add(types.functions(any, sets));
      constantTypes.add(types.functions(sets, any));
    }

    boolean hasConstant(int c) {
      return c >= 0 && c < constantTypes.count();
    }

    int constantType(int c) {
      return constantTypes.at(c);
    }

    /** A new constant as a term of its own type. */
    int addConstant(int type) {
      int c = constantTypes.count();
      if (type < 0 || c >= MOST_CONSTANTS) {
        return NONE;
      }
      constantTypes.add(type);
      return leaf(CONSTANT_MARK, c, type);
    }

    int leaf(int mark, int n, int type) {
      return store.make(4 * n + mark, NONE, NONE, type);
    }

    int application(int f, int x) {
      if (store.sign(f) == ABSTRACTION) {
        return applicationOf(ownType(store.left(f)), f, x);
      }
      int type = store.writtenType(f);
      return types.isFunctions(type) ? applicationOf(types.store.right(type), f, x) : NONE;
    }

    /** An application whose own type is known. */
    int applicationOf(int type, int f, int x) {
      return f < 0 || x < 0 ? NONE : store.make(APPLICATION, f, x, type);
    }

    int abstractionOver(int type, int body) {
      if (type < 0 || body < 0 || !isTypeInLimits(type, body)) {
        return NONE;
      }
      return store.make(ABSTRACTION, body, NONE, type);
    }

    /** An abstraction's type is measured, not made: it is none of the types that are counted. */
    private boolean isTypeInLimits(int type, int body) {
      int many = 1 + types.store.symbolsOf(type);
      int high = 1 + types.store.heightOf(type);
      int inside = body;
      int level = 1;
      while (level < MOST_TYPE_HEIGHT && store.sign(inside) == ABSTRACTION) {
        int next = store.writtenType(inside);
        level++;
        many += 1 + types.store.symbolsOf(next);
        high = Math.max(high, level + types.store.heightOf(next));
        inside = store.left(inside);
      }
      int last = store.writtenType(inside);
      many += types.store.symbolsOf(last);
      high = Math.max(high, level + types.store.heightOf(last));
      return many <= MOST_TYPE_SYMBOLS && high <= MOST_TYPE_HEIGHT;
    }

    int ownType(int term) {
      return ownTypeAt(term, 0);
    }

    private int ownTypeAt(int term, int level) {
      if (store.sign(term) != ABSTRACTION) {
        return store.writtenType(term);
      }
      if (level >= MOST_TYPE_HEIGHT) {
        return NONE;
      }
      int to = ownTypeAt(store.left(term), level + 1);
      return to < 0 ? NONE : types.store.make(FUNCTIONS, store.writtenType(term), to, 0);
    }

    /** The type that a function is from, or NONE if the term is no function. */
    int argumentType(int f) {
      int type = store.writtenType(f);
      if (store.sign(f) == ABSTRACTION) {
        return type;
      }
      return types.isFunctions(type) ? types.store.left(type) : NONE;
    }

    boolean isOf(int term, int type) {
      int inside = term;
      int rest = type;
      for (int i = 0; i < MOST_TYPE_HEIGHT && store.sign(inside) == ABSTRACTION; i++) {
        if (!types.isFunctions(rest) || types.store.left(rest) != store.writtenType(inside)) {
          return false;
        }
        rest = types.store.right(rest);
        inside = store.left(inside);
      }
      return rest >= 0 && store.sign(inside) != ABSTRACTION && store.writtenType(inside) == rest;
    }

    boolean isApplicable(int f, int x) {
      return isOf(x, argumentType(f));
    }

    boolean isFree(int term) {
      int sign = store.sign(term);
      return sign >= 0 && (sign & 3) == FREE_MARK;
    }

    /** P of P x, or NONE if the term is no application. */
    int functionOf(int term) {
      return store.sign(term) == APPLICATION ? store.left(term) : NONE;
    }

    boolean isAbstractionToFree(int term) {
      int function = functionOf(term);
      return function >= 0 && store.sign(function) == ABSTRACTION && isFree(store.right(term));
    }

    boolean isEquation(int term) {
      int equality = functionOf(functionOf(term));
      return equality >= 0 && store.sign(equality) == 4 * EQUALITY + CONSTANT_MARK;
    }

    int leftSide(int equation) {
      return store.right(store.left(equation));
    }

    int rightSide(int equation) {
      return store.right(equation);
    }

    /** The term's symbol i in prefix order: over each part before it goes a leap. */
    int signAt(int term, int i) {
      int at = term;
      int rest = i;
      for (int level = 0; level < MOST_TERM_HEIGHT && rest > 0; level++) {
        int first = store.left(at);
        rest--;
        if (rest < store.symbolsOf(first)) {
          at = first;
        } else {
          rest -= store.symbolsOf(first);
          at = store.right(at);
        }
      }
      return store.sign(at);
    }

    private void listPartsOf(int term) {
      store.startRound();
      store.list(term);
      store.listParts();
    }

    boolean contains(int term, int part) {
      listPartsOf(term);
      return store.remembered(part, 0) >= 0;
    }

    boolean hasFree(int term) {
      listPartsOf(term);
      for (int i = 0; i < store.listedCount(); i++) {
        if (isFree(store.listed(i))) {
          return true;
        }
      }
      return false;
    }

    /** How many type variables are in the term; they are among the listed types then. */
    int typeVariableCount(int term) {
      listPartsOf(term);
      types.store.startRound();
      for (int i = 0; i < store.listedCount(); i++) {
        types.store.list(store.writtenType(store.listed(i)));
      }
      types.store.listParts();
      return types.listedVariables();
    }

    /** The variables of a term's type are all in the term, so that it is enough to count them. */
    boolean hasTypeVariableBesideItsType(int term) {
      int all = typeVariableCount(term);
      types.store.startRound();
      int inside = term;
      for (int i = 0; i < MOST_TYPE_HEIGHT && store.sign(inside) == ABSTRACTION; i++) {
        types.store.list(store.writtenType(inside));
        inside = store.left(inside);
      }
      types.store.list(store.writtenType(inside));
      types.store.listParts();
      return types.listedVariables() < all;
    }

    void settle() {
      store.settle();
      settledConstants = constantTypes.count();
    }

    void undo() {
      store.undo();
      constantTypes.keep(settledConstants);
    }
  }

  /** Makes terms anew with something else in some of their places. */
  private static final class Rewriting {
    private static final int TERM_FOR_FREE = 0;
    private static final int BOUND_FOR_FREE = 1;
    private static final int FREE_FOR_BOUND = 2;
    private static final int TYPES_FOR_VARIABLES = 3;

    private final Types types;
    private final Terms terms;
    private int kind = TERM_FOR_FREE;
    private int free = NONE;
    private int instead = NONE;
    private int firstVariable = NONE;
    private int firstType = NONE;
    private int secondVariable = NONE;
    private int secondType = NONE;

    Rewriting(Types types, Terms terms) {
      this.types = types;
      this.terms = terms;
    }

    private void start(int newKind, int variable, int term) {
      kind = newKind;
      free = variable;
      instead = term;
      terms.store.startRound();
    }

    void startPut(int variable, int term) {
      start(TERM_FOR_FREE, variable, term);
    }

    void startRetype(int n, int first, int m, int second) {
      start(TYPES_FOR_VARIABLES, NONE, NONE);
      types.store.startRound();
      firstVariable = -1 - n;
      firstType = first;
      secondVariable = -1 - m;
      secondType = second;
    }

    /** The abstraction of the body over the variable. */
    int bound(int variable, int body) {
      if (variable < 0 || body < 0) {
        return NONE;
      }
      start(BOUND_FOR_FREE, variable, NONE);
      return terms.abstractionOver(terms.store.writtenType(variable), changedAt(body, 0, 0));
    }

    /** The abstraction's body with what it is applied to, a free variable, for its variable. */
    int opened(int application) {
      start(FREE_FOR_BOUND, terms.store.right(application), NONE);
      return changedAt(terms.store.left(terms.functionOf(application)), 0, 0);
    }

    /** The term with what has been started. */
    int changed(int term) {
      return changedAt(term, 0, 0);
    }

    /** The part of a term that is so many abstractions and so many levels down in it. */
    private int changedAt(int term, int depth, int level) {
      int sign = terms.store.sign(term);
      int type = changedType(terms.store.writtenType(term), 0);
      if (sign >= 0) {
        return changedLeaf(term, sign, type, depth);
      }
      int known = terms.store.remembered(term, depth);
      if (known >= 0) {
        return known;
      }
      if (level >= MOST_TERM_HEIGHT) {
        return NONE;
      }
      int made = NONE;
      if (sign == ABSTRACTION) {
        made = terms.abstractionOver(type, changedAt(terms.store.left(term), depth + 1, level + 1));
      } else {
        int f = changedAt(terms.store.left(term), depth, level + 1);
        int x = f < 0 ? NONE : changedAt(terms.store.right(term), depth, level + 1);
        made = terms.applicationOf(type, f, x);
      }
      if (made >= 0) {
        terms.store.remember(term, depth, made);
      }
      return made;
    }

    private int changedLeaf(int leaf, int sign, int type, int depth) {
      if (kind == TYPES_FOR_VARIABLES) {
        return terms.store.make(sign, NONE, NONE, type);
      }
      if (kind == FREE_FOR_BOUND) {
        return sign == 4 * depth + BOUND_MARK ? free : leaf;
      }
      if (leaf != free) {
        return leaf;
      }
      if (kind == TERM_FOR_FREE) {
        return instead;
      }
      return terms.store.make(4 * depth + BOUND_MARK, NONE, NONE, type);
    }

    private int changedType(int type, int level) {
      if (kind != TYPES_FOR_VARIABLES) {
        return type;
      }
      int sign = types.store.sign(type);
      if (sign < 0) {
        return sign == firstVariable ? firstType : sign == secondVariable ? secondType : type;
      }
      int known = types.store.remembered(type, 0);
      if (known >= 0) {
        return known;
      }
      int takes = types.takesOf(sign);
      if (level >= MOST_TYPE_HEIGHT || takes <= 0) {
        return takes == 0 ? type : NONE;
      }
      int a = changedType(types.store.left(type), level + 1);
      int b = takes > 1 && a >= 0 ? changedType(types.store.right(type), level + 1) : NONE;
      if (a < 0 || (takes > 1 && b < 0)) {
        return NONE;
      }
      int made = types.store.make(sign, a, b, 0);
      if (made >= 0) {
        types.store.remember(type, 0, made);
      }
      return made;
    }
  }

  /** The terms that the rules and axioms state. Whatever is made of NONE is NONE. */
  private static final class Logic {
    private final Types types;
    private final Terms terms;
    private final Rewriting rewriting;

    Logic(Types types, Terms terms, Rewriting rewriting) {
      this.types = types;
      this.terms = terms;
      this.rewriting = rewriting;
    }

    int equation(int left, int right) {
      return equationOf(terms.ownType(left), left, right);
    }

    /** An equation of two terms whose type is known. */
    private int equationOf(int type, int left, int right) {
      int sets = types.functions(type, types.truths);
      int equality = terms.leaf(CONSTANT_MARK, EQUALITY, types.functions(type, sets));
      int half = terms.applicationOf(sets, equality, left);
      return terms.applicationOf(types.truths, half, right);
    }

    /** TO (FRO a) = a. */
    int madeComesBack(int made, int to, int fro) {
      int a = terms.leaf(FREE_MARK, 0, made);
      return equation(terms.application(to, terms.application(fro, a)), a);
    }

    /** P r = (FRO (TO r) = r). */
    int oldComesBack(int predicate, int old, int to, int fro) {
      int r = terms.leaf(FREE_MARK, 0, old);
      int back = equation(terms.application(fro, terms.application(to, r)), r);
      return equation(terms.application(predicate, r), back);
    }

    /** (\x. f x) = f. */
    int eta() {
      int from = types.variable(0);
      int x = terms.leaf(FREE_MARK, 0, from);
      int f = terms.leaf(FREE_MARK, 1, types.functions(from, types.variable(1)));
      return equation(rewriting.bound(x, terms.application(f, x)), f);
    }

    /** P x ==> P (choice P). */
    int chosen() {
      int any = types.variable(0);
      int x = terms.leaf(FREE_MARK, 0, any);
      int p = terms.leaf(FREE_MARK, 1, types.functions(any, types.truths));
      int holds = terms.application(p, x);
      return equation(and(holds, terms.application(p, choiceOf(any, p)), truth()), holds);
    }

    /** ? f. (! x. ! y. f x = f y ==> x = y) /\ (? y. ! x. not (y = f x)). */
    int infinity() {
      int things = types.built(THINGS, NONE, NONE);
      int f = terms.leaf(FREE_MARK, 0, types.functions(things, things));
      int x = terms.leaf(FREE_MARK, 1, things);
      int y = terms.leaf(FREE_MARK, 2, things);
      int alike = equation(terms.application(f, x), terms.application(f, y));
      int t = truth();
      int oneToOne = equation(and(alike, equation(x, y), t), alike);
      int reached = equation(y, terms.application(f, x));
      int never = all(identity(), t);
      int notReached = equation(and(reached, never, t), reached);
      int noneReaches = all(rewriting.bound(x, notReached), t);
      int missesOne = some(rewriting.bound(y, noneReaches));
      int apart = all(rewriting.bound(x, all(rewriting.bound(y, oneToOne), t)), t);
      return some(rewriting.bound(f, and(apart, missesOne, t)));
    }

    private int choiceOf(int type, int set) {
      int choiceType = types.functions(types.functions(type, types.truths), type);
      return terms.applicationOf(type, terms.leaf(CONSTANT_MARK, CHOICE, choiceType), set);
    }

    /** \p. p, over truths. */
    private int identity() {
      return terms.abstractionOver(types.truths, terms.leaf(BOUND_MARK, 0, types.truths));
    }

    private int truth() {
      int identity = identity();
      return equationOf(types.functions(types.truths, types.truths), identity, identity);
    }

    /** No bound variable of p and q is loose, so that they can stand under one more abstraction. */
    private int and(int p, int q, int truth) {
      int sets = types.functions(types.truths, types.truths);
      int connective = types.functions(types.truths, sets);
      int f = terms.leaf(BOUND_MARK, 0, connective);
      int ofBoth = terms.applicationOf(types.truths, terms.applicationOf(sets, f, p), q);
      int ofTruths = terms.applicationOf(types.truths, terms.applicationOf(sets, f, truth), truth);
      return equationOf(types.functions(connective, types.truths),
          terms.abstractionOver(connective, ofBoth), terms.abstractionOver(connective, ofTruths));
    }

    /** ! v. p, from \v. p. */
    private int all(int set, int truth) {
      int over = terms.store.writtenType(set);
      return equationOf(types.functions(over, types.truths), set,
          terms.abstractionOver(over, truth));
    }

    /** ? v. p, from \v. p. */
    private int some(int set) {
      return terms.applicationOf(types.truths, set, choiceOf(terms.store.writtenType(set), set));
    }
  }

  /** The trace, with the types and terms in the order of their entries. */
  private static final class Trace {
    private final Store types;
    private final Store terms;
    private final Row numbers = new Row();
    private final Row typeOrder = new Row();
    private final Row termOrder = new Row();
    private int settledNumbers = 0;
    private int settledTypes = 0;
    private int settledTerms = 0;
    private boolean full = false;

    Trace(Store types, Store terms) {
      this.types = types;
      this.terms = terms;
    }

    int length() {
      return numbers.count();
    }

    int numberAt(int i) {
      return numbers.at(i);
    }

    /** Whether the call has come upon the limit. */
    boolean isFull() {
      return full;
    }

    void write(int number) {
      if (numbers.count() >= MOST_TRACED) {
        full = true;
      } else {
        numbers.add(number);
      }
    }

    void step(int rule, int named) {
      write(10 + rule);
      write(named);
    }

    void step(int rule, int named, int alsoNamed) {
      step(rule, named);
      write(alsoNamed);
    }

    /** The number of the type's entry, which is made if there is none yet. */
    int typeEntry(int type) {
      return typeEntryAt(type, 0);
    }

    private int typeEntryAt(int type, int level) {
      int known = types.entryOf(type);
      if (known >= 0) {
        return known;
      }
      int left = types.left(type);
      int right = types.right(type);
      if (full || level >= MOST_TYPE_HEIGHT) {
        full = true;
        return NONE;
      }
      int first = left < 0 ? NONE : typeEntryAt(left, level + 1);
      int second = right < 0 ? NONE : typeEntryAt(right, level + 1);
      int sign = types.sign(type);
      write(sign < 0 ? 0 : 1);
      write(sign < 0 ? -1 - sign : sign);
      if (left >= 0) {
        write(first);
      }
      if (right >= 0) {
        write(second);
      }
      types.setEntry(type, typeOrder.count());
      typeOrder.add(type);
      return typeOrder.count() - 1;
    }

    /** The number of the term's entry, which is made if there is none yet. */
    int termEntry(int term) {
      return termEntryAt(term, 0);
    }

    private int termEntryAt(int term, int level) {
      int known = terms.entryOf(term);
      if (known >= 0) {
        return known;
      }
      if (full || level >= MOST_TERM_HEIGHT) {
        full = true;
        return NONE;
      }
      int sign = terms.sign(term);
      if (sign == APPLICATION) {
        int f = termEntryAt(terms.left(term), level + 1);
        int x = termEntryAt(terms.right(term), level + 1);
        return addTerm(term, 4, f, x);
      }
      int type = typeEntry(terms.writtenType(term));
      if (sign == ABSTRACTION) {
        return addTerm(term, 5, type, termEntryAt(terms.left(term), level + 1));
      }
      return addTerm(term, leafEntryKind(sign & 3), sign >> 2, type);
    }

    private static int leafEntryKind(int mark) {
      return mark == FREE_MARK ? 2 : mark == CONSTANT_MARK ? 3 : 6;
    }

    private int addTerm(int term, int entryKind, int first, int second) {
      write(entryKind);
      write(first);
      write(second);
      terms.setEntry(term, termOrder.count());
      termOrder.add(term);
      return termOrder.count() - 1;
    }

    int settledNumbers() {
      return settledNumbers;
    }

    int settledTypes() {
      return settledTypes;
    }

    int settledTerms() {
      return settledTerms;
    }

    void settle() {
      settledNumbers = numbers.count();
      settledTypes = typeOrder.count();
      settledTerms = termOrder.count();
    }

    void undo() {
      keep(settledNumbers, settledTypes, settledTerms);
      full = false;
    }

    /** Takes back the entries, so that the types and terms can get new ones. */
    void keep(int numbersKept, int typesKept, int termsKept) {
      for (int i = typeOrder.count() - 1; i >= typesKept; i--) {
        types.setEntry(typeOrder.at(i), NONE);
      }
      for (int i = termOrder.count() - 1; i >= termsKept; i--) {
        terms.setEntry(termOrder.at(i), NONE);
      }
      typeOrder.keep(typesKept);
      termOrder.keep(termsKept);
      numbers.keep(numbersKept);
    }
  }

  /** The sequents, and the draft of those that a call is making. */
  private static final class Sequents {
    private final Store terms;
    private final Row conclusions = new Row();
    private final Row hypothesisStarts = new Row();
    private final Row hypothesisCounts = new Row();
    private final Row hypothesisPool = new Row();
    private final Row tracedBefore = new Row();
    private final Row typesBefore = new Row();
    private final Row termsBefore = new Row();
    private int symbolsMade = 0;
    private int lasting = 0;
    private final Row draftHypotheses = new Row();
    private int draftConclusion = NONE;
    private int draftSecond = NONE;
    private int draftSymbols = 0;
    private boolean refused = false;

    Sequents(Store terms) {
      this.terms = terms;
    }

    int count() {
      return conclusions.count();
    }

    /** How many sequents can never be cut off, as the last of them is of a definition. */
    int lasting() {
      return lasting;
    }

    int conclusionOf(int a) {
      return conclusions.at(a);
    }

    int hypothesisCount(int a) {
      return hypothesisCounts.at(a);
    }

    int hypothesisOf(int a, int i) {
      return hypothesisPool.at(hypothesisStarts.at(a) + i);
    }

    int tracedBefore(int a) {
      return tracedBefore.at(a);
    }

    int typesBefore(int a) {
      return typesBefore.at(a);
    }

    int termsBefore(int a) {
      return termsBefore.at(a);
    }

    void begin() {
      draftHypotheses.keep(0);
      draftConclusion = NONE;
      draftSecond = NONE;
      draftSymbols = 0;
      refused = count() >= MOST_SEQUENTS;
    }

    /** Whether the draft has come upon a limit. */
    boolean isRefused() {
      return refused;
    }

    private void countIn(int term) {
      draftSymbols += terms.symbolsOf(term);
      if (term < 0 || symbolsMade + draftSymbols > MOST_SEQUENT_SYMBOLS) {
        refused = true;
      }
    }

    private boolean isSupposed(int term) {
      for (int i = 0; i < draftHypotheses.count(); i++) {
        if (draftHypotheses.at(i) == term) {
          return true;
        }
      }
      return false;
    }

    void suppose(int term) {
      if (refused || isSupposed(term)) {
        return;
      }
      countIn(term);
      if (draftHypotheses.count() >= MOST_HYPOTHESES) {
        refused = true;
      }
      draftHypotheses.add(term);
    }

    void supposeAllBut(int term, int a) {
      for (int i = 0; i < hypothesisCount(a); i++) {
        if (hypothesisOf(a, i) != term) {
          suppose(hypothesisOf(a, i));
        }
      }
    }

    void conclude(int term) {
      draftConclusion = term;
      countIn(term);
    }

    /** A second sequent, without hypotheses. */
    void concludeAlso(int term) {
      draftSecond = term;
      countIn(term);
      if (count() + 1 >= MOST_SEQUENTS) {
        refused = true;
      }
    }

    /** The first drafted sequent's number. */
    int addDraft(boolean forGood, Trace trace) {
      int number = count();
      int start = hypothesisPool.count();
      for (int i = 0; i < draftHypotheses.count(); i++) {
        hypothesisPool.add(draftHypotheses.at(i));
      }
      addSequent(draftConclusion, start, trace);
      if (draftSecond >= 0) {
        addSequent(draftSecond, hypothesisPool.count(), trace);
      }
      symbolsMade += draftSymbols;
      if (forGood) {
        lasting = count();
      }
      return number;
    }

    private void addSequent(int conclusion, int start, Trace trace) {
      conclusions.add(conclusion);
      hypothesisStarts.add(start);
      hypothesisCounts.add(hypothesisPool.count() - start);
      tracedBefore.add(trace.settledNumbers());
      typesBefore.add(trace.settledTypes());
      termsBefore.add(trace.settledTerms());
    }

    void keep(int n) {
      hypothesisPool.keep(hypothesisStarts.at(n));
      conclusions.keep(n);
      hypothesisStarts.keep(n);
      hypothesisCounts.keep(n);
      tracedBefore.keep(n);
      typesBefore.keep(n);
      termsBefore.keep(n);
    }
  }

  /** Handles in their order, each for a type or a term; all their symbols count. */
  private static final class Handles {
    private final int mostSymbols;
    private final Row things = new Row();
    private int symbols = 0;

    Handles(int mostSymbols) {
      this.mostSymbols = mostSymbols;
    }

    boolean has(int handle) {
      return handle >= 0 && handle < things.count();
    }

    int at(int handle) {
      return things.at(handle);
    }

    boolean hasRoom(int more) {
      return symbols + more <= mostSymbols;
    }

    int add(int thing, int more) {
      things.add(thing);
      symbols += more;
      return things.count() - 1;
    }
  }
}
