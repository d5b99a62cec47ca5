import java.util.Arrays;

/** Grammars made into tables that read. */
public final class Tablemaker {
  private static final int NONE = -1;
  private static final int ACCEPT = -2;
  private static final int CLASH = -3;
  private static final int UNFIT = -4;
  private static final int MANY = -5;
  private static final int ENDLESS = -6;
  private static final int RING = -7;
  private static final int OVER = -8;
  private static final int REDUCE = -10;
  private static final int REFUSING = -100;

  private static final int SIGNS = 5;
  private static final int VARIABLES = 5;
  private static final int SYMBOLS = 10;
  private static final int END = 5;
  private static final int LOOKS = 6;
  private static final int ALL_LOOKS = 63;
  private static final int KINDS = 4;
  private static final int ACTS = 4;
  private static final int RANKS = 10;
  private static final int SIDES = 3;
  private static final int LEFT_SIDE = 0;
  private static final int RIGHT_SIDE = 1;

  private static final int MOST_RULES = 10;
  private static final int MOST_RIGHT = 4;
  private static final int MOST_SIGNS = 10;
  private static final int MOST_UNDONE = 8;
  private static final int MOST_STEPS = 200;
  private static final int MOST_LOOKING = 40;
  private static final int MOST_TREES = 1000000;
  private static final int MODULUS = 1000003;

  private static final int ORDERS = 6;
  private static final int CLEAR = 5;
  private static final int BACK = 6;
  private static final int LENGTH_OF_NONE = 4;
  private static final int MOST_CENSUS = 3;

  // Far above what ten rules can come to.
  private static final int MOST_STATES = 100000;
  private static final int FIRST_STATES = 64;
  // The tree of a shortest text has five levels at most, each with four parts.
  private static final int MOST_SHORT = 1024;
  // Each round of a search for a least set adds to it, and no set here is larger.
  private static final int MOST_ROUNDS = 1000;

  private static final int DOTS = 5;
  private static final int ITEMS = 55;
  private static final int HOLLOW_REST = 64;
  private static final long FIRST_ITEM = 1;
  private static final long LAST_ITEM = 2;

  private final Grammar grammar = new Grammar();
  private final Grammar shelf = new Grammar();
  private final History history = new History();
  private final int[] signs = new int[MOST_SIGNS];
  private int signCount;
  private final int[] orders = new int[ORDERS];
  private final Reading reading = new Reading();
  private final Reading trial = new Reading();
  private final Facts facts = new Facts();
  private final Census census = new Census();
  private final Census shelfCensus = new Census();
  private final Automaton plain;
  private final Automaton looking;
  private final Table[] tables = new Table[KINDS];
  private final Shorts shorts = new Shorts();
  private final Chart chart = new Chart();
  private final Prefixes prefixes = new Prefixes();
  private final StringBuilder page = new StringBuilder();
  private int edition;
  private int knocks;

  public Tablemaker() {
    Automaton withoutLooks = new Automaton(1, FIRST_STATES, MOST_STATES);
    Automaton withLooks = new Automaton(LOOKS, MOST_LOOKING, MOST_LOOKING);
    plain = withoutLooks;
    looking = withLooks;
    tables[0] = new Table(0, withoutLooks);
    tables[1] = new Table(1, withoutLooks);
    tables[2] = new Table(2, withoutLooks);
    tables[3] = new Table(3, withLooks);
  }

  // ---- the grammar

  public int rule(int left, int many, int a, int b, int c, int d)
      throws IllegalArgumentException, IllegalStateException {
    if (left < 0 || left >= VARIABLES || many < 0 || many > MOST_RIGHT) {
      throw new IllegalArgumentException("no such left or length");
    }
    for (int i = 0; i < many; i++) {
      if (!isBelow(oneOf(i, a, b, c, d), SYMBOLS)) {
        throw new IllegalArgumentException("no such symbol");
      }
    }
    if (grammar.count >= MOST_RULES || grammar.holds(left, many, a, b, c, d)) {
      throw new IllegalStateException("full, or there already");
    }
    beforeChange();
    grammar.append(left, many, a, b, c, d);
    return grammar.count - 1;
  }

  public int drop(int rule) throws IndexOutOfBoundsException {
    checkRule(rule);
    beforeChange();
    grammar.remove(rule);
    return grammar.count;
  }

  public int act(int rule, int act) throws IndexOutOfBoundsException, IllegalArgumentException {
    checkRule(rule);
    if (!isBelow(act, ACTS)) {
      throw new IllegalArgumentException("no such act");
    }
    beforeChange();
    int before = at(grammar.acts, rule);
    put(grammar.acts, rule, act);
    return before;
  }

  public int rank(int sign, int rank, int side) throws IllegalArgumentException {
    if (!isBelow(sign, SIGNS) || !isBelow(rank, RANKS) || !isBelow(side, SIDES)) {
      throw new IllegalArgumentException("no such sign, rank or side");
    }
    beforeChange();
    int before = at(grammar.ranks, sign);
    put(grammar.ranks, sign, rank);
    put(grammar.sides, sign, side);
    return before;
  }

  public int needless() {
    prepareFacts();
    int gone = grammar.count - Integer.bitCount(facts.useful);
    if (gone == 0) {
      return 0;
    }
    beforeChange();
    for (int rule = MOST_RULES - 1; rule >= 0; rule--) {
      if (rule < grammar.count && !facts.isUseful(rule)) {
        grammar.remove(rule);
      }
    }
    return gone;
  }

  public int turn(int variable) throws IllegalArgumentException {
    checkVariable(variable);
    int helper = grammar.unusedVariable();
    if (helper == NONE || !grammar.canTurn(variable)) {
      return UNFIT;
    }
    beforeChange();
    grammar.turnAbout(variable, helper);
    return helper;
  }

  public int shelve() {
    beforeChange();
    shelf.copyFrom(grammar);
    return shelf.count;
  }

  public int undo() throws IllegalStateException {
    if (history.count == 0) {
      throw new IllegalStateException("nothing to undo");
    }
    history.restore(grammar, shelf);
    edition++;
    reading.isThere = false;
    return history.count;
  }

  public int knock() {
    knocks++;
    return knocks;
  }

  // ---- text and reading

  public int say(int a, int b, int c, int d, int e, int f)
      throws IllegalArgumentException, IllegalStateException {
    setOrders(a, b, c, d, e, f);
    boolean silent = true;
    for (int i = 0; i < ORDERS; i++) {
      if (at(orders, i) < NONE || at(orders, i) > BACK) {
        throw new IllegalArgumentException("no such sign");
      }
      silent = silent && at(orders, i) == NONE;
    }
    if (ordersPassBound()) {
      throw new IllegalStateException("too many signs");
    }
    for (int i = 0; i < ORDERS; i++) {
      obey(at(orders, i));
    }
    reading.isThere = reading.isThere && silent;
    return signCount;
  }

  public int alter(int place, int sign) throws IndexOutOfBoundsException, IllegalArgumentException {
    if (!isBelow(place, signCount)) {
      throw new IndexOutOfBoundsException("no such place");
    }
    if (!isBelow(sign, SIGNS)) {
      throw new IllegalArgumentException("no such sign");
    }
    int before = at(signs, place);
    put(signs, place, sign);
    reading.isThere = false;
    return before;
  }

  public int begin(int kind) throws IllegalArgumentException, IllegalStateException {
    prepareTables();
    Table table = tableThatReads(kind);
    reading.open(kind);
    return table.own.count;
  }

  public int step() throws IllegalStateException {
    prepareTables();
    Table table = reading.isThere ? tableOf(reading.kind) : null;
    if (table == null) {
      throw new IllegalStateException("no reading");
    }
    return reading.outcome == Reading.GOING ? reading.advance(table, grammar, signs, signCount) : OVER;
  }

  public int read(int kind) throws IllegalArgumentException, IllegalStateException {
    prepareTables();
    Table table = tableThatReads(kind);
    reading.open(kind);
    reading.finish(table, grammar, signs, signCount);
    switch (reading.outcome) {
      case Reading.ACCEPTED:
        return reading.stepCount;
      case Reading.REFUSED:
        return REFUSING - reading.place;
      default:
        return ENDLESS;
    }
  }

  // ---- what is asked of the grammar

  public String text(int rule) throws IndexOutOfBoundsException {
    checkRule(rule);
    page.setLength(0);
    grammar.write(page, rule, NONE);
    return page.toString();
  }

  public int ofRule(int rule, int what) throws IndexOutOfBoundsException, IllegalArgumentException {
    checkRule(rule);
    if (!isBelow(what, 5)) {
      throw new IllegalArgumentException("no such question");
    }
    prepareFacts();
    return answerOfRule(rule, what);
  }

  public int ofVariable(int variable, int what) throws IllegalArgumentException {
    checkVariable(variable);
    if (!isBelow(what, 6)) {
      throw new IllegalArgumentException("no such question");
    }
    prepareFacts();
    return answerOfVariable(variable, what);
  }

  public String shortest(int variable) throws IllegalArgumentException {
    checkVariable(variable);
    prepareFacts();
    shorts.refresh(edition, grammar, facts);
    page.setLength(0);
    shorts.write(page, variable);
    return page.toString();
  }

  public boolean hasRing() {
    prepareFacts();
    return facts.hasCircle;
  }

  // ---- what is asked of tables

  public int states(int kind) throws IllegalArgumentException {
    checkKind(kind);
    prepareTables();
    Table table = tableOf(kind);
    return table == null ? MANY : table.own.count;
  }

  public String state(int kind, int state) throws IndexOutOfBoundsException {
    prepareTables();
    Table table = checkedTable(kind, state);
    page.setLength(0);
    table.own.write(page, grammar, state);
    return page.toString();
  }

  public int action(int kind, int state, int sign)
      throws IndexOutOfBoundsException, IllegalArgumentException {
    prepareTables();
    Table table = checkedTable(kind, state);
    if (!isBelow(sign, LOOKS)) {
      throw new IllegalArgumentException("no such sign");
    }
    return table.actionAt(state, sign);
  }

  public int goes(int kind, int state, int variable)
      throws IndexOutOfBoundsException, IllegalArgumentException {
    prepareTables();
    Table table = checkedTable(kind, state);
    checkVariable(variable);
    return table.own.move(state, SIGNS + variable);
  }

  public int looks(int kind, int state, int rule) throws IndexOutOfBoundsException {
    prepareTables();
    Table table = checkedTable(kind, state);
    checkRule(rule);
    return table.looksOf(grammar, state, rule);
  }

  public int clashes(int kind) throws IllegalArgumentException, IllegalStateException {
    prepareTables();
    return tableThatIsThere(kind).clashCount;
  }

  public int clash(int kind, int nth, int what)
      throws IllegalArgumentException, IllegalStateException, IndexOutOfBoundsException {
    prepareTables();
    Table table = tableThatIsThere(kind);
    if (!isBelow(nth, table.clashCount)) {
      throw new IndexOutOfBoundsException("no such clash");
    }
    if (!isBelow(what, 5)) {
      throw new IllegalArgumentException("no such question");
    }
    return table.answerOfClash(nth, what);
  }

  public String beginning(int kind, int state) throws IndexOutOfBoundsException {
    prepareTables();
    Table table = checkedTable(kind, state);
    page.setLength(0);
    prepareBeginnings();
    table.own.beginnings.write(page, shorts, state);
    return page.toString();
  }

  public int ofTable(int kind, int what) throws IllegalArgumentException, IllegalStateException {
    prepareTables();
    Table table = tableThatIsThere(kind);
    if (!isBelow(what, 3)) {
      throw new IllegalArgumentException("no such question");
    }
    return table.answerOfAll(what);
  }

  // ---- what is asked of the reading

  public String pile() {
    page.setLength(0);
    reading.writePile(page);
    return page.toString();
  }

  public int stepAt(int nth) throws IllegalArgumentException {
    if (nth < 0) {
      throw new IllegalArgumentException("below 0");
    }
    return reading.isThere && nth < reading.stepCount ? at(reading.steps, nth) : OVER;
  }

  public String tree() {
    page.setLength(0);
    reading.writeTree(page, grammar);
    return page.toString();
  }

  public int value() {
    return reading.worth(grammar, signs);
  }

  public String derivation() {
    page.setLength(0);
    reading.writeDerivation(page);
    return page.toString();
  }

  public int shared() {
    return reading.countShared();
  }

  // ---- what is asked of texts and sentences

  public String typed() {
    page.setLength(0);
    for (int i = 0; i < signCount; i++) {
      page.append(letterOf(at(signs, i)));
    }
    return page.toString();
  }

  public int nexts(int place) throws IndexOutOfBoundsException {
    if (place < 0 || place > signCount) {
      throw new IndexOutOfBoundsException("no such place");
    }
    prepareFacts();
    return prefixes.behind(facts, signs, place);
  }

  public int mend() {
    prepareFacts();
    return leastMending();
  }

  public int trees() {
    prepareFacts();
    return countTrees();
  }

  public int sentences(int length) throws IllegalArgumentException {
    checkLength(length);
    prepareCensus();
    return census.countSentences(length);
  }

  public String sentence(int nth) throws IllegalArgumentException {
    if (nth < 0) {
      throw new IllegalArgumentException("below 0");
    }
    prepareCensus();
    return pageOf(census.findSentence(nth));
  }

  public String twin(int length) throws IllegalArgumentException {
    checkLength(length);
    prepareFacts();
    prepareCensus();
    return pageOf(findTwin(length));
  }

  public String differ(int length) throws IllegalArgumentException {
    checkLength(length);
    prepareCensus();
    prepareShelfCensus();
    return pageOf(findDifference(length));
  }

  // ---- all of it

  public int house(int what) throws IllegalArgumentException {
    if (!isBelow(what, 9)) {
      throw new IllegalArgumentException("no such question");
    }
    prepareFacts();
    return answerOfHouse(what);
  }

  public boolean isSound() {
    prepareTables();
    prepareCensus();
    return allHolds();
  }

  public long digest() {
    prepareTables();
    prepareBeginnings();
    prepareCensus();
    prepareShelfCensus();
    long d = mixGrammar(6105);
    for (int kind = 0; kind < KINDS; kind++) {
      d = mixTable(d, kind);
    }
    d = mixReading(d);
    d = mixTexts(d);
    return mix(d, allHolds() ? 1 : 0);
  }

  // ---- checks

  private void checkRule(int rule) {
    if (!isBelow(rule, grammar.count)) {
      throw new IndexOutOfBoundsException("no such rule");
    }
  }

  private static void checkVariable(int variable) {
    if (!isBelow(variable, VARIABLES)) {
      throw new IllegalArgumentException("no such variable");
    }
  }

  private static void checkKind(int kind) {
    if (!isBelow(kind, KINDS)) {
      throw new IllegalArgumentException("no such kind");
    }
  }

  private static void checkLength(int length) {
    if (length < 0 || length > MOST_CENSUS) {
      throw new IllegalArgumentException("no such length");
    }
  }

  // Each of the next three answers a table that is there, or throws.

  private Table tableThatIsThere(int kind) {
    checkKind(kind);
    Table table = tableOf(kind);
    if (table == null) {
      throw new IllegalStateException("no such table");
    }
    return table;
  }

  private Table tableThatReads(int kind) {
    checkKind(kind);
    Table table = tableOf(kind);
    if (table == null || table.clashCount > 0) {
      throw new IllegalStateException("no table, or a clash");
    }
    return table;
  }

  private Table checkedTable(int kind, int state) {
    Table table = tableOf(kind);
    if (table == null || !isBelow(state, table.own.count)) {
      throw new IndexOutOfBoundsException("no such state");
    }
    return table;
  }

  /** The table of a kind, or null if it is not there; tables are prepared ahead of this. */
  private Table tableOf(int kind) {
    if (!isBelow(kind, tables.length)) {
      return null;
    }
    return kind >= 2 && looking.isPassed ? null : tables[kind];
  }

  // ---- what is kept fresh

  private void beforeChange() {
    history.keep(grammar, shelf);
    edition++;
    reading.isThere = false;
  }

  private void prepareFacts() {
    facts.refresh(edition, grammar);
  }

  private void prepareTables() {
    facts.refresh(edition, grammar);
    plain.refresh(edition, facts);
    looking.refresh(edition, facts);
    for (int kind = 0; kind < KINDS; kind++) {
      Table table = tables[kind];
      if (table != null && (kind < 2 || !looking.isPassed)) {
        table.refresh(edition, grammar, facts, looking);
      }
    }
  }

  private void prepareBeginnings() {
    shorts.refresh(edition, grammar, facts);
    plain.beginnings.refresh(edition, plain, shorts);
    if (!looking.isPassed) {
      looking.beginnings.refresh(edition, looking, shorts);
    }
  }

  private void prepareCensus() {
    census.refresh(edition, grammar);
  }

  private void prepareShelfCensus() {
    shelfCensus.refresh(edition, shelf);
  }

  // ---- answers to numbered questions, when all is prepared

  private int answerOfRule(int rule, int what) {
    switch (what) {
      case 0:
        return grammar.left(rule);
      case 1:
        return grammar.length(rule);
      case 2:
        return at(grammar.acts, rule);
      case 3:
        return grammar.rankOfRule(rule);
      default:
        return facts.isUseful(rule) ? 1 : 0;
    }
  }

  private int answerOfVariable(int variable, int what) {
    switch (what) {
      case 0:
        return has(facts.growing, variable) ? 1 : 0;
      case 1:
        return has(facts.reached, variable) ? 1 : 0;
      case 2:
        return has(facts.hollow, variable) ? 1 : 0;
      case 3:
        return at(facts.firsts, SIGNS + variable);
      case 4:
        return at(facts.follows, variable);
      default:
        return grammar.rulesOf(variable);
    }
  }

  private int answerOfHouse(int what) {
    switch (what) {
      case 0:
        return grammar.count;
      case 1:
        return Integer.bitCount(facts.useful);
      case 2:
        return signCount;
      case 3:
        return history.count;
      case 4:
        return shelf.count;
      case 5:
        return reading.isThere ? 1 : 0;
      case 6:
        return reading.isThere ? reading.place : NONE;
      case 7:
        return reading.isThere ? reading.stepCount : 0;
      default:
        return knocks;
    }
  }

  // ---- typing

  private void setOrders(int a, int b, int c, int d, int e, int f) {
    put(orders, 0, a);
    put(orders, 1, b);
    put(orders, 2, c);
    put(orders, 3, d);
    put(orders, 4, e);
    put(orders, 5, f);
  }

  private boolean ordersPassBound() {
    int many = signCount;
    for (int i = 0; i < ORDERS; i++) {
      many = countBehind(at(orders, i), many);
      if (many > MOST_SIGNS) {
        return true;
      }
    }
    return false;
  }

  private static int countBehind(int order, int many) {
    switch (order) {
      case NONE:
        return many;
      case CLEAR:
        return 0;
      case BACK:
        return Math.max(0, many - 1);
      default:
        return many + 1;
    }
  }

  private void obey(int order) {
    if (isBelow(order, SIGNS)) {
      put(signs, signCount, order);
    }
    signCount = countBehind(order, signCount);
  }

  // ---- texts, when all is prepared

  private int leastMending() {
    int cost = chart.fill(grammar, facts, signs, signCount, false);
    return cost >= Chart.FAR ? NONE : cost;
  }

  private int countTrees() {
    if (facts.hasCircle) {
      return RING;
    }
    int count = chart.fill(grammar, facts, signs, signCount, true);
    return count > MOST_TREES ? MANY : count;
  }

  private int findTwin(int length) {
    if (facts.hasCircle) {
      return NONE;
    }
    for (int text = 0; text < Census.firstOf(length + 1); text++) {
      if (census.isTwin(text)) {
        return text;
      }
    }
    return NONE;
  }

  private int findDifference(int length) {
    for (int text = 0; text < Census.firstOf(length + 1); text++) {
      if (census.isSentence(text) != shelfCensus.isSentence(text)) {
        return text;
      }
    }
    return NONE;
  }

  private String pageOf(int text) {
    page.setLength(0);
    if (text == NONE) {
      page.append("none");
    } else {
      for (int i = 0; i < Census.lengthOf(text); i++) {
        page.append(letterOf(Census.signOf(text, i)));
      }
    }
    return page.toString();
  }

  private static int lengthOfText(int text) {
    return text == NONE ? LENGTH_OF_NONE : Census.lengthOf(text);
  }

  // ---- soundness

  private boolean allHolds() {
    return boundsHold() && tablesReadRight() && coresAgree() && nextsAgree();
  }

  private boolean boundsHold() {
    return grammar.count <= MOST_RULES && shelf.count <= MOST_RULES && signCount <= MOST_SIGNS
        && history.count <= MOST_UNDONE && reading.stepCount <= MOST_STEPS;
  }

  private boolean tablesReadRight() {
    for (int kind = 0; kind < KINDS; kind++) {
      Table table = tableOf(kind);
      if (table != null && table.clashCount == 0 && table.settledCount == 0
          && !readsRight(table)) {
        return false;
      }
    }
    return true;
  }

  private boolean readsRight(Table table) {
    if (facts.hasCircle) {
      return false;
    }
    for (int text = 0; text < Census.firstOf(3); text++) {
      int length = Census.lengthOf(text);
      for (int i = 0; i < length; i++) {
        put(orders, i, Census.signOf(text, i));
      }
      trial.open(table.kind);
      trial.finish(table, grammar, orders, length);
      boolean accepted = trial.outcome == Reading.ACCEPTED;
      if (trial.outcome != Reading.STOPPED && accepted != census.isSentence(text)) {
        return false;
      }
      if (census.isTwin(text)) {
        return false;
      }
    }
    return true;
  }

  private boolean coresAgree() {
    if (looking.isPassed) {
      return true;
    }
    for (int state = 0; state < looking.count; state++) {
      if (plain.findCore(looking.core(state)) == NONE) {
        return false;
      }
    }
    for (int state = 0; state < plain.count; state++) {
      if (looking.findCore(plain.core(state)) == NONE) {
        return false;
      }
    }
    return true;
  }

  private boolean nextsAgree() {
    int due = at(facts.firsts, SIGNS) | (has(facts.hollow, 0) ? 1 << END : 0);
    return prefixes.behind(facts, signs, 0) == due;
  }

  // ---- the checksum

  private static long mix(long d, long v) {
    return d * 31 + v;
  }

  private long mixGrammar(long start) {
    long d = start;
    for (int what = 0; what <= 8; what++) {
      d = mix(d, answerOfHouse(what));
    }
    for (int rule = 0; rule < grammar.count; rule++) {
      for (int what = 0; what <= 4; what++) {
        d = mix(d, answerOfRule(rule, what));
      }
    }
    for (int variable = 0; variable < VARIABLES; variable++) {
      for (int what = 0; what <= 5; what++) {
        d = mix(d, answerOfVariable(variable, what));
      }
      d = mix(d, shorts.shownLength(variable));
    }
    return mix(d, facts.hasCircle ? 1 : 0);
  }

  private long mixTable(long start, int kind) {
    Table table = tableOf(kind);
    if (table == null) {
      return mix(start, MANY);
    }
    long d = mix(start, table.own.count);
    d = mix(d, table.clashCount);
    for (int what = 0; what <= 2; what++) {
      d = mix(d, table.answerOfAll(what));
    }
    for (int state = 0; state < table.own.count; state++) {
      page.setLength(0);
      table.own.write(page, grammar, state);
      d = mix(d, page.length());
      for (int sign = 0; sign < LOOKS; sign++) {
        d = mix(d, table.actionAt(state, sign));
      }
      d = mix(d, table.own.beginnings.shownLength(state));
    }
    return d;
  }

  private long mixReading(long start) {
    page.setLength(0);
    reading.writePile(page);
    long d = mix(start, page.length());
    page.setLength(0);
    reading.writeTree(page, grammar);
    d = mix(d, page.length());
    d = mix(d, reading.worth(grammar, signs));
    page.setLength(0);
    reading.writeDerivation(page);
    d = mix(d, page.length());
    return mix(d, reading.countShared());
  }

  private long mixTexts(long start) {
    long d = mix(start, prefixes.behind(facts, signs, signCount));
    d = mix(d, leastMending());
    d = mix(d, countTrees());
    for (int length = 0; length < MOST_CENSUS; length++) {
      d = mix(d, census.countSentences(length));
    }
    d = mix(d, lengthOfText(findTwin(2)));
    return mix(d, lengthOfText(findDifference(2)));
  }

  // ---- rows, sets and letters

  private static boolean isBelow(int number, int bound) {
    return number >= 0 && number < bound;
  }

  private static int at(int[] row, int place) {
    return place >= 0 && place < row.length ? row[place] : NONE;
  }

  private static long longAt(long[] row, int place) {
    return place >= 0 && place < row.length ? row[place] : 0;
  }

  private static void put(int[] row, int place, int number) {
    if (place >= 0 && place < row.length) {
      row[place] = number;
    }
  }

  private static void putLong(long[] row, int place, long number) {
    if (place >= 0 && place < row.length) {
      row[place] = number;
    }
  }

  private static int[] stretched(int[] row, int length) {
    return length <= row.length ? row : Arrays.copyOf(row, Math.max(length, 2 * row.length));
  }

  private static long[] stretchedLong(long[] row, int length) {
    return length <= row.length ? row : Arrays.copyOf(row, Math.max(length, 2 * row.length));
  }

  private static boolean has(int set, int member) {
    return (set >>> member & 1) != 0;
  }

  private static int oneOf(int nth, int a, int b, int c, int d) {
    switch (nth) {
      case 0:
        return a;
      case 1:
        return b;
      case 2:
        return c;
      default:
        return d;
    }
  }

  private static char letterOf(int sign) {
    return sign == END ? '$' : (char) ('a' + sign);
  }

  private static char letterOfSymbol(int symbol) {
    return symbol < SIGNS ? (char) ('a' + symbol) : (char) ('A' + symbol - SIGNS);
  }

  private static long itemBit(int rule, int dot) {
    return 1L << ((rule + 1) * DOTS + dot);
  }

  private static int lowestRule(long items) {
    long lowest = items & -items;
    return Long.bitCount(lowest - 1) / DOTS - 1;
  }

  /** Rules with acts, and the ranks and sides of the signs. */
  private static final class Grammar {
    private int count;
    private final int[] lefts = new int[MOST_RULES];
    private final int[] lengths = new int[MOST_RULES];
    private final int[] rights = new int[MOST_RULES * MOST_RIGHT];
    private final int[] acts = new int[MOST_RULES];
    private final int[] ranks = new int[SIGNS];
    private final int[] sides = new int[SIGNS];

    int left(int rule) {
      return rule < 0 ? NONE : at(lefts, rule);
    }

    int length(int rule) {
      return rule < 0 ? 1 : at(lengths, rule);
    }

    int symbol(int rule, int place) {
      return rule < 0 ? SIGNS : at(rights, rule * MOST_RIGHT + place);
    }

    private void setSymbol(int rule, int place, int symbol) {
      put(rights, rule * MOST_RIGHT + place, symbol);
    }

    int variable(int rule, int place) {
      return rule < 0 ? 0 : at(rights, rule * MOST_RIGHT + place) - SIGNS;
    }

    int rankOfRule(int rule) {
      for (int place = length(rule) - 1; place >= 0; place--) {
        if (symbol(rule, place) < SIGNS) {
          return at(ranks, symbol(rule, place));
        }
      }
      return 0;
    }

    int rulesOf(int variable) {
      int many = 0;
      for (int rule = 0; rule < count; rule++) {
        many += left(rule) == variable ? 1 : 0;
      }
      return many;
    }

    boolean holds(int left, int many, int a, int b, int c, int d) {
      for (int rule = 0; rule < count; rule++) {
        boolean same = left(rule) == left && length(rule) == many;
        for (int place = 0; place < many && same; place++) {
          same = symbol(rule, place) == oneOf(place, a, b, c, d);
        }
        if (same) {
          return true;
        }
      }
      return false;
    }

    void append(int left, int many, int a, int b, int c, int d) {
      if (count < MOST_RULES) {
        put(lefts, count, left);
        put(lengths, count, many);
        put(acts, count, 0);
        for (int place = 0; place < many; place++) {
          setSymbol(count, place, oneOf(place, a, b, c, d));
        }
        count++;
      }
    }

    void remove(int gone) {
      for (int rule = gone; rule < count - 1; rule++) {
        put(lefts, rule, left(rule + 1));
        put(lengths, rule, length(rule + 1));
        put(acts, rule, at(acts, rule + 1));
        for (int place = 0; place < MOST_RIGHT; place++) {
          setSymbol(rule, place, symbol(rule + 1, place));
        }
      }
      count--;
    }

    int unusedVariable() {
      for (int variable = 1; variable < VARIABLES; variable++) {
        if (!isUsed(variable)) {
          return variable;
        }
      }
      return NONE;
    }

    private boolean isUsed(int variable) {
      for (int rule = 0; rule < count; rule++) {
        if (left(rule) == variable) {
          return true;
        }
        for (int place = 0; place < length(rule); place++) {
          if (variable(rule, place) == variable) {
            return true;
          }
        }
      }
      return false;
    }

    private boolean beginsWithItself(int rule) {
      return length(rule) > 0 && variable(rule, 0) == left(rule);
    }

    boolean canTurn(int variable) {
      int beginning = 0;
      int others = 0;
      for (int rule = 0; rule < count; rule++) {
        if (left(rule) == variable && beginsWithItself(rule)) {
          beginning++;
          if (length(rule) == 1) {
            return false;
          }
        } else if (left(rule) == variable) {
          others++;
          if (length(rule) == MOST_RIGHT) {
            return false;
          }
        }
      }
      return beginning > 0 && others > 0 && count < MOST_RULES;
    }

    void turnAbout(int variable, int helper) {
      for (int rule = 0; rule < count; rule++) {
        if (left(rule) == variable && beginsWithItself(rule)) {
          put(lefts, rule, helper);
          for (int place = 1; place < length(rule); place++) {
            setSymbol(rule, place - 1, symbol(rule, place));
          }
          setSymbol(rule, length(rule) - 1, SIGNS + helper);
        } else if (left(rule) == variable) {
          setSymbol(rule, length(rule), SIGNS + helper);
          put(lengths, rule, length(rule) + 1);
        }
      }
      append(helper, 0, 0, 0, 0, 0);
    }

    void copyFrom(Grammar other) {
      count = other.count;
      System.arraycopy(other.lefts, 0, lefts, 0, MOST_RULES);
      System.arraycopy(other.lengths, 0, lengths, 0, MOST_RULES);
      System.arraycopy(other.rights, 0, rights, 0, MOST_RULES * MOST_RIGHT);
      System.arraycopy(other.acts, 0, acts, 0, MOST_RULES);
      System.arraycopy(other.ranks, 0, ranks, 0, SIGNS);
      System.arraycopy(other.sides, 0, sides, 0, SIGNS);
    }

    void write(StringBuilder page, int rule, int dot) {
      page.append(rule < 0 ? 'S' : letterOfSymbol(SIGNS + left(rule)));
      page.append('>');
      for (int place = 0; place < length(rule); place++) {
        if (place == dot) {
          page.append('.');
        }
        page.append(letterOfSymbol(symbol(rule, place)));
      }
      if (dot == length(rule)) {
        page.append('.');
      }
    }
  }

  /** The last changes: how grammar and shelf were ahead of each. */
  private static final class History {
    private int count;
    private int oldest;
    private final Grammar[] grammars = new Grammar[MOST_UNDONE];
    private final Grammar[] shelves = new Grammar[MOST_UNDONE];

    History() {
      for (int i = 0; i < MOST_UNDONE; i++) {
        grammars[i] = new Grammar();
        shelves[i] = new Grammar();
      }
    }

    void keep(Grammar grammar, Grammar shelf) {
      if (count == MOST_UNDONE) {
        oldest = (oldest + 1) % MOST_UNDONE;
        count--;
      }
      int place = (oldest + count) % MOST_UNDONE;
      copy(grammar, keptIn(grammars, place));
      copy(shelf, keptIn(shelves, place));
      count++;
    }

    void restore(Grammar grammar, Grammar shelf) {
      count--;
      int place = (oldest + count) % MOST_UNDONE;
      copy(keptIn(grammars, place), grammar);
      copy(keptIn(shelves, place), shelf);
    }

    private static Grammar keptIn(Grammar[] row, int place) {
      return place >= 0 && place < row.length ? row[place] : null;
    }

    private static void copy(Grammar from, Grammar to) {
      if (from != null && to != null) {
        to.copyFrom(from);
      }
    }
  }

  /** What follows from the rules of a grammar: sets of variables and signs, and of items. */
  private static final class Facts {
    private int edition = NONE;
    private int growing;
    private int reached;
    private int useful;
    private int hollow;
    private boolean hasCircle;
    private final int[] firsts = new int[SYMBOLS];
    private final int[] follows = new int[VARIABLES];
    private final int[] alone = new int[VARIABLES];
    // Items with the dot ahead of each symbol, ahead of all, and behind all.
    private final long[] ahead = new long[SYMBOLS];
    private final long[] starts = new long[VARIABLES];
    private final long[] ends = new long[VARIABLES];
    // For each item: FIRST of what stands behind the symbol behind the dot.
    private final int[] rests = new int[ITEMS];

    void refresh(int now, Grammar grammar) {
      if (edition != now) {
        edition = now;
        findGrowing(grammar);
        findReached(grammar);
        findHollow(grammar);
        findFirsts(grammar);
        findFollows(grammar);
        findCircle(grammar);
        findItems(grammar);
      }
    }

    boolean isUseful(int rule) {
      return has(useful, rule);
    }

    /** Whether all symbols of a right side are variables of a set. */
    private static boolean allIn(Grammar grammar, int rule, int set) {
      for (int place = 0; place < grammar.length(rule); place++) {
        int variable = grammar.variable(rule, place);
        if (variable < 0 || !has(set, variable)) {
          return false;
        }
      }
      return true;
    }

    private static boolean variablesIn(Grammar grammar, int rule, int set) {
      for (int place = 0; place < grammar.length(rule); place++) {
        int variable = grammar.variable(rule, place);
        if (variable >= 0 && !has(set, variable)) {
          return false;
        }
      }
      return true;
    }

    private static int variablesOf(Grammar grammar, int rule) {
      int set = 0;
      for (int place = 0; place < grammar.length(rule); place++) {
        int variable = grammar.variable(rule, place);
        set |= variable >= 0 ? 1 << variable : 0;
      }
      return set;
    }

    private void findGrowing(Grammar grammar) {
      growing = 0;
      for (int round = 0; round < VARIABLES; round++) {
        for (int rule = 0; rule < grammar.count; rule++) {
          if (variablesIn(grammar, rule, growing)) {
            growing |= 1 << grammar.left(rule);
          }
        }
      }
    }

    private void findReached(Grammar grammar) {
      reached = growing & 1;
      useful = 0;
      for (int round = 0; round < VARIABLES; round++) {
        for (int rule = 0; rule < grammar.count; rule++) {
          if (has(reached, grammar.left(rule)) && variablesIn(grammar, rule, growing)) {
            useful |= 1 << rule;
            reached |= variablesOf(grammar, rule);
          }
        }
      }
    }

    private void findHollow(Grammar grammar) {
      hollow = 0;
      for (int round = 0; round < VARIABLES; round++) {
        for (int rule = 0; rule < grammar.count; rule++) {
          if (isUseful(rule) && allIn(grammar, rule, hollow)) {
            hollow |= 1 << grammar.left(rule);
          }
        }
      }
    }

    /** FIRST of a right side from one place on; HOLLOW_REST is in it, if that is hollow. */
    private int firstOfRest(Grammar grammar, int rule, int from) {
      int set = 0;
      for (int place = from; place < grammar.length(rule); place++) {
        set |= at(firsts, grammar.symbol(rule, place));
        int variable = grammar.variable(rule, place);
        if (variable < 0 || !has(hollow, variable)) {
          return set;
        }
      }
      return set | HOLLOW_REST;
    }

    private void findFirsts(Grammar grammar) {
      for (int symbol = 0; symbol < SYMBOLS; symbol++) {
        firsts[symbol] = symbol < SIGNS ? 1 << symbol : 0;
      }
      for (int round = 0; round < VARIABLES; round++) {
        for (int rule = 0; rule < grammar.count; rule++) {
          if (isUseful(rule)) {
            int symbol = SIGNS + grammar.left(rule);
            put(firsts, symbol, at(firsts, symbol) | firstOfRest(grammar, rule, 0) & ~HOLLOW_REST);
          }
        }
      }
    }

    private void findFollows(Grammar grammar) {
      Arrays.fill(follows, 0);
      follows[0] = 1 << END;
      for (int round = 0; round < VARIABLES; round++) {
        for (int rule = 0; rule < grammar.count; rule++) {
          if (isUseful(rule)) {
            spreadFollow(grammar, rule);
          }
        }
      }
    }

    private void spreadFollow(Grammar grammar, int rule) {
      for (int place = 0; place < grammar.length(rule); place++) {
        int variable = grammar.variable(rule, place);
        if (variable >= 0) {
          int rest = firstOfRest(grammar, rule, place + 1);
          int more = (rest & HOLLOW_REST) != 0 ? at(follows, grammar.left(rule)) : 0;
          put(follows, variable, at(follows, variable) | rest & ~HOLLOW_REST | more);
        }
      }
    }

    private void findCircle(Grammar grammar) {
      Arrays.fill(alone, 0);
      for (int rule = 0; rule < grammar.count; rule++) {
        for (int place = 0; place < grammar.length(rule); place++) {
          int variable = grammar.variable(rule, place);
          if (isUseful(rule) && variable >= 0 && othersAreHollow(grammar, rule, place)) {
            put(alone, grammar.left(rule), at(alone, grammar.left(rule)) | 1 << variable);
          }
        }
      }
      for (int over = 0; over < VARIABLES; over++) {
        for (int from = 0; from < VARIABLES; from++) {
          alone[from] |= has(alone[from], over) ? alone[over] : 0;
        }
      }
      hasCircle = false;
      for (int variable = 0; variable < VARIABLES; variable++) {
        hasCircle = hasCircle || has(alone[variable], variable);
      }
    }

    private boolean othersAreHollow(Grammar grammar, int rule, int but) {
      for (int place = 0; place < grammar.length(rule); place++) {
        int variable = grammar.variable(rule, place);
        if (place != but && (variable < 0 || !has(hollow, variable))) {
          return false;
        }
      }
      return true;
    }

    private void findItems(Grammar grammar) {
      Arrays.fill(ahead, 0);
      Arrays.fill(starts, 0);
      Arrays.fill(ends, 0);
      for (int rule = NONE; rule < grammar.count; rule++) {
        if (rule == NONE || isUseful(rule)) {
          addItems(grammar, rule);
        }
      }
    }

    private void addItems(Grammar grammar, int rule) {
      int length = grammar.length(rule);
      for (int dot = 0; dot < length; dot++) {
        int symbol = grammar.symbol(rule, dot);
        putLong(ahead, symbol, longAt(ahead, symbol) | itemBit(rule, dot));
        put(rests, (rule + 1) * DOTS + dot, firstOfRest(grammar, rule, dot + 1));
      }
      int left = grammar.left(rule);
      if (left >= 0) {
        putLong(starts, left, longAt(starts, left) | itemBit(rule, 0));
        putLong(ends, left, longAt(ends, left) | itemBit(rule, length));
      }
    }

    /** The complete items by whose rules may be reduced ahead of a sign, as FOLLOW tells. */
    long endsBefore(int sign) {
      long items = 0;
      for (int variable = 0; variable < VARIABLES; variable++) {
        items |= has(at(follows, variable), sign) ? longAt(ends, variable) : 0;
      }
      return items;
    }

    long allEnds() {
      long items = 0;
      for (int variable = 0; variable < VARIABLES; variable++) {
        items |= longAt(ends, variable);
      }
      return items;
    }
  }

  /** The first text, by their order, of each variable. */
  private static final class Shorts {
    private int edition = NONE;
    private final int[] lengths = new int[VARIABLES];
    private final int[] texts = new int[VARIABLES * MOST_SHORT];
    private final int[] draft = new int[MOST_SHORT];
    private int draftLength;
    private final int[] best = new int[MOST_SHORT];
    private int bestLength;
    private int bestVariable;

    void refresh(int now, Grammar grammar, Facts facts) {
      if (edition != now) {
        edition = now;
        Arrays.fill(lengths, NONE);
        for (int round = 0; round < VARIABLES; round++) {
          findBest(grammar, facts);
          if (bestVariable != NONE) {
            put(lengths, bestVariable, bestLength);
            for (int i = 0; i < bestLength; i++) {
              put(texts, bestVariable * MOST_SHORT + i, at(best, i));
            }
          }
        }
      }
    }

    /** No text still to come is ahead of the best one that known texts make, so that one is known. */
    private void findBest(Grammar grammar, Facts facts) {
      bestVariable = NONE;
      for (int rule = 0; rule < grammar.count; rule++) {
        if (facts.isUseful(rule) && at(lengths, grammar.left(rule)) == NONE
            && compose(grammar, rule) && (bestVariable == NONE || draftIsAhead())) {
          bestVariable = grammar.left(rule);
          bestLength = draftLength;
          System.arraycopy(draft, 0, best, 0, MOST_SHORT);
        }
      }
    }

    private boolean compose(Grammar grammar, int rule) {
      draftLength = 0;
      for (int place = 0; place < grammar.length(rule); place++) {
        int symbol = grammar.symbol(rule, place);
        int length = lengthOf(symbol);
        if (length == NONE || draftLength + length > MOST_SHORT) {
          return false;
        }
        copyText(symbol, draft, draftLength);
        draftLength += length;
      }
      return true;
    }

    private boolean draftIsAhead() {
      if (draftLength != bestLength) {
        return draftLength < bestLength;
      }
      for (int i = 0; i < draftLength; i++) {
        if (at(draft, i) != at(best, i)) {
          return at(draft, i) < at(best, i);
        }
      }
      return false;
    }

    int lengthOf(int symbol) {
      return symbol < SIGNS ? 1 : at(lengths, symbol - SIGNS);
    }

    int shownLength(int variable) {
      return at(lengths, variable) == NONE ? LENGTH_OF_NONE : at(lengths, variable);
    }

    /** Copies the first text of a symbol into a row. */
    void copyText(int symbol, int[] to, int place) {
      if (symbol < SIGNS) {
        put(to, place, symbol);
        return;
      }
      int start = (symbol - SIGNS) * MOST_SHORT;
      int length = at(lengths, symbol - SIGNS);
      for (int i = 0; i < length; i++) {
        put(to, place + i, at(texts, start + i));
      }
    }

    void write(StringBuilder page, int variable) {
      if (at(lengths, variable) == NONE) {
        page.append("none");
      }
      for (int i = 0; i < at(lengths, variable); i++) {
        page.append(letterOf(at(texts, variable * MOST_SHORT + i)));
      }
    }
  }

  /**
   * How many trees the texts of at most three signs have, for each symbol: 0, 1, or 2 for more.
   * Texts are numbered by their order. All rules may count here: one that is not useful stands in
   * no tree for A.
   */
  private static final class Census {
    private static final int TEXTS = 156;
    private static final int ENOUGH = 2;
    private static final int SIDE = 4;

    private int edition = NONE;
    private final int[] counts = new int[SYMBOLS * TEXTS];
    // The numbers of the parts of the text at hand, by where they begin and end.
    private final int[] parts = new int[SIDE * SIDE];
    private final int[] ways = new int[SIDE];

    static int firstOf(int length) {
      switch (length) {
        case 0:
          return 0;
        case 1:
          return 1;
        case 2:
          return 6;
        case 3:
          return 31;
        default:
          return TEXTS;
      }
    }

    static int lengthOf(int text) {
      if (text < 6) {
        return text < 1 ? 0 : 1;
      }
      return text < 31 ? 2 : 3;
    }

    static int signOf(int text, int place) {
      int rest = text - firstOf(lengthOf(text));
      for (int i = lengthOf(text) - 1; i > place; i--) {
        rest /= SIGNS;
      }
      return rest % SIGNS;
    }

    boolean isSentence(int text) {
      return at(counts, SIGNS * TEXTS + text) > 0;
    }

    int findSentence(int nth) {
      int ahead = nth;
      for (int text = 0; text < TEXTS; text++) {
        if (isSentence(text)) {
          if (ahead == 0) {
            return text;
          }
          ahead--;
        }
      }
      return NONE;
    }

    int countSentences(int length) {
      int many = 0;
      for (int text = firstOf(length); text < firstOf(length + 1); text++) {
        many += isSentence(text) ? 1 : 0;
      }
      return many;
    }

    boolean isTwin(int text) {
      return at(counts, SIGNS * TEXTS + text) >= ENOUGH;
    }

    void refresh(int now, Grammar grammar) {
      if (edition != now) {
        edition = now;
        Arrays.fill(counts, 0);
        for (int sign = 0; sign < SIGNS; sign++) {
          put(counts, sign * TEXTS + firstOf(1) + sign, 1);
        }
        for (int text = 0; text < TEXTS; text++) {
          findParts(text);
          countTrees(grammar, text);
        }
      }
    }

    private void findParts(int text) {
      int length = lengthOf(text);
      for (int from = 0; from <= length; from++) {
        int number = 0;
        for (int to = from; to <= length; to++) {
          put(parts, from * SIDE + to, firstOf(to - from) + number);
          number = number * SIGNS + signOf(text, to);
        }
      }
    }

    private void countTrees(Grammar grammar, int text) {
      boolean changed = true;
      for (int round = 0; round < MOST_ROUNDS && changed; round++) {
        changed = false;
        for (int variable = 0; variable < VARIABLES; variable++) {
          int total = 0;
          for (int rule = 0; rule < grammar.count; rule++) {
            if (grammar.left(rule) == variable) {
              total += countWays(grammar, rule, lengthOf(text));
            }
          }
          int place = (SIGNS + variable) * TEXTS + text;
          changed = changed || at(counts, place) != Math.min(ENOUGH, total);
          put(counts, place, Math.min(ENOUGH, total));
        }
      }
    }

    private int countWays(Grammar grammar, int rule, int length) {
      for (int to = 0; to <= length; to++) {
        put(ways, to, to == 0 ? 1 : 0);
      }
      for (int place = 0; place < grammar.length(rule); place++) {
        addSymbol(grammar.symbol(rule, place), length);
      }
      return at(ways, length);
    }

    /** From behind, so that the counts ahead are still those without this symbol. */
    private void addSymbol(int symbol, int length) {
      for (int to = length; to >= 0; to--) {
        int total = 0;
        for (int from = 0; from <= to; from++) {
          int many = at(ways, from);
          if (many > 0) {
            total += many * at(counts, symbol * TEXTS + at(parts, from * SIDE + to));
          }
        }
        put(ways, to, Math.min(ENOUGH, total));
      }
    }
  }

  /** For all parts of a text: how many trees they have, or how much must be mended for one. */
  private static final class Chart {
    private static final int FAR = 1000000;
    private static final int ENOUGH = 1000001;
    private static final int SPOTS = 11;
    private static final int SPANS = 121;

    private boolean isCounting;
    private int size;
    private final int[] wholes = new int[VARIABLES * SPANS];
    private final int[] parts = new int[MOST_RULES * DOTS * SPANS];
    private final int[] nearest = new int[SIGNS * SPOTS];

    /** What it comes to for A and the whole text. */
    int fill(Grammar grammar, Facts facts, int[] text, int count, boolean counting) {
      isCounting = counting;
      size = count;
      findNearest(text);
      for (int length = 0; length <= size; length++) {
        for (int from = 0; from + length <= size; from++) {
          fillSpan(grammar, facts, from, from + length);
        }
      }
      return at(wholes, size);
    }

    /** Where each sign stands next, from each place on. */
    private void findNearest(int[] text) {
      for (int sign = 0; sign < SIGNS; sign++) {
        int place = SPOTS;
        for (int from = size; from >= 0; from--) {
          place = from < size && at(text, from) == sign ? from : place;
          put(nearest, sign * SPOTS + from, place);
        }
      }
    }

    private void fillSpan(Grammar grammar, Facts facts, int from, int to) {
      int span = from * SPOTS + to;
      for (int variable = 0; variable < VARIABLES; variable++) {
        put(wholes, variable * SPANS + span, nothing());
      }
      boolean changed = true;
      for (int round = 0; round < MOST_ROUNDS && changed; round++) {
        changed = false;
        for (int variable = 0; variable < VARIABLES; variable++) {
          int total = nothing();
          for (int rule = 0; rule < grammar.count; rule++) {
            if (grammar.left(rule) == variable && facts.isUseful(rule)) {
              total = either(total, fillParts(grammar, rule, from, to));
            }
          }
          int place = variable * SPANS + span;
          changed = changed || at(wholes, place) != total;
          put(wholes, place, total);
        }
      }
    }

    /** What it comes to for the right side of a rule. */
    private int fillParts(Grammar grammar, int rule, int from, int to) {
      int row = rule * DOTS * SPANS;
      int before = without(from, to);
      put(parts, row + from * SPOTS + to, before);
      for (int dot = 0; dot < grammar.length(rule); dot++) {
        int symbol = grammar.symbol(rule, dot);
        int total = nothing();
        for (int middle = from; middle <= to; middle++) {
          int first = at(parts, row + from * SPOTS + middle);
          total = either(total, both(first, ofSymbol(symbol, middle, to)));
        }
        row += SPANS;
        put(parts, row + from * SPOTS + to, total);
        before = total;
      }
      return before;
    }

    private int ofSymbol(int symbol, int from, int to) {
      if (symbol >= SIGNS) {
        return at(wholes, (symbol - SIGNS) * SPANS + from * SPOTS + to);
      }
      boolean isIn = at(nearest, symbol * SPOTS + from) < to;
      if (isCounting) {
        return isIn && to - from == 1 ? 1 : 0;
      }
      return isIn ? to - from - 1 : to - from + 1;
    }

    private int without(int from, int to) {
      if (isCounting) {
        return from == to ? 1 : 0;
      }
      return to - from;
    }

    private int nothing() {
      return isCounting ? 0 : FAR;
    }

    private int either(int one, int other) {
      return isCounting ? Math.min(ENOUGH, one + other) : Math.min(one, other);
    }

    private int both(int one, int other) {
      if (isCounting) {
        return (int) Math.min(ENOUGH, (long) one * other);
      }
      return Math.min(FAR, one + other);
    }
  }

  /** What may come behind the beginning of a text: sets of items, by where their rules began. */
  private static final class Prefixes {
    private static final int SPOTS = 11;

    private final long[] sets = new long[SPOTS * SPOTS];

    int behind(Facts facts, int[] text, int place) {
      Arrays.fill(sets, 0);
      putLong(sets, 0, FIRST_ITEM);
      for (int spot = 0; spot <= place; spot++) {
        closeSpot(facts, spot);
        if (spot < place) {
          passOver(facts, at(text, spot), spot);
        }
      }
      int next = (longAt(sets, place * SPOTS) & LAST_ITEM) != 0 ? 1 << END : 0;
      long all = unionOf(place);
      for (int sign = 0; sign < SIGNS; sign++) {
        next |= (all & longAt(facts.ahead, sign)) != 0 ? 1 << sign : 0;
      }
      return next;
    }

    private long unionOf(int spot) {
      long all = 0;
      for (int origin = 0; origin <= spot; origin++) {
        all |= longAt(sets, spot * SPOTS + origin);
      }
      return all;
    }

    private void passOver(Facts facts, int sign, int spot) {
      for (int origin = 0; origin <= spot; origin++) {
        long moved = (longAt(sets, spot * SPOTS + origin) & longAt(facts.ahead, sign)) << 1;
        putLong(sets, (spot + 1) * SPOTS + origin, moved);
      }
    }

    private void closeSpot(Facts facts, int spot) {
      boolean changed = true;
      for (int round = 0; round < MOST_ROUNDS && changed; round++) {
        changed = expect(facts, spot);
        for (int origin = 0; origin <= spot; origin++) {
          changed = complete(facts, spot, origin) || changed;
        }
      }
    }

    private boolean add(int spot, int origin, long items) {
      long before = longAt(sets, spot * SPOTS + origin);
      putLong(sets, spot * SPOTS + origin, before | items);
      return (items & ~before) != 0;
    }

    private boolean expect(Facts facts, int spot) {
      boolean changed = false;
      for (int variable = 0; variable < VARIABLES; variable++) {
        if ((unionOf(spot) & longAt(facts.ahead, SIGNS + variable)) != 0) {
          changed = add(spot, spot, longAt(facts.starts, variable)) || changed;
        }
      }
      return changed;
    }

    private boolean complete(Facts facts, int spot, int origin) {
      boolean changed = false;
      for (int variable = 0; variable < VARIABLES; variable++) {
        if ((longAt(sets, spot * SPOTS + origin) & longAt(facts.ends, variable)) != 0) {
          long waiting = longAt(facts.ahead, SIGNS + variable);
          for (int earlier = 0; earlier <= origin; earlier++) {
            long moved = (longAt(sets, origin * SPOTS + earlier) & waiting) << 1;
            changed = add(spot, earlier, moved) || changed;
          }
        }
      }
      return changed;
    }
  }

  /**
   * States and moves. A state has a set of items in each of its layers: one layer without looks,
   * or one for each look.
   */
  private static final class Automaton {
    private final int layers;
    private final int most;
    private final Beginnings beginnings;
    private int edition = NONE;
    private int count;
    private boolean isPassed;
    private long[] kernels;
    private long[] closings;
    private int[] moves;
    private final long[] draft = new long[LOOKS];

    Automaton(int layers, int first, int most) {
      this.layers = layers;
      this.most = most;
      beginnings = new Beginnings(first);
      kernels = new long[first * layers];
      closings = new long[first * layers];
      moves = new int[first * SYMBOLS];
    }

    void refresh(int now, Facts facts) {
      if (edition != now) {
        edition = now;
        isPassed = false;
        count = 0;
        Arrays.fill(draft, 0);
        putLong(draft, layers - 1, FIRST_ITEM);
        append();
        for (int state = 0; state < most && state < count && !isPassed; state++) {
          closeState(facts, state);
          findMoves(facts, state);
        }
      }
    }

    int move(int state, int symbol) {
      return at(moves, state * SYMBOLS + symbol);
    }

    /** All items of a state with their closing, without looks. */
    long closingOf(int state) {
      long items = 0;
      for (int layer = 0; layer < layers; layer++) {
        items |= longAt(closings, state * layers + layer);
      }
      return items;
    }

    /** The items of a state without looks. */
    long core(int state) {
      long items = 0;
      for (int layer = 0; layer < layers; layer++) {
        items |= longAt(kernels, state * layers + layer);
      }
      return items;
    }

    int findCore(long items) {
      for (int state = 0; state < count; state++) {
        if (core(state) == items) {
          return state;
        }
      }
      return NONE;
    }

    private void append() {
      if (count >= most) {
        isPassed = true;
        return;
      }
      kernels = stretchedLong(kernels, (count + 1) * layers);
      closings = stretchedLong(closings, (count + 1) * layers);
      moves = stretched(moves, (count + 1) * SYMBOLS);
      for (int layer = 0; layer < layers; layer++) {
        putLong(kernels, count * layers + layer, longAt(draft, layer));
      }
      count++;
    }

    private void findMoves(Facts facts, int state) {
      for (int symbol = 0; symbol < SYMBOLS; symbol++) {
        long all = 0;
        for (int layer = 0; layer < layers; layer++) {
          long items = longAt(closings, state * layers + layer) & longAt(facts.ahead, symbol);
          putLong(draft, layer, items << 1);
          all |= items;
        }
        // Found ahead of the put, as a new state may make the row another one.
        int next = all == 0 ? NONE : numberOfDraft();
        put(moves, state * SYMBOLS + symbol, next);
      }
    }

    private int numberOfDraft() {
      for (int state = 0; state < count; state++) {
        if (isDraft(state)) {
          return state;
        }
      }
      append();
      return count - 1;
    }

    private boolean isDraft(int state) {
      for (int layer = 0; layer < layers; layer++) {
        if (longAt(kernels, state * layers + layer) != longAt(draft, layer)) {
          return false;
        }
      }
      return true;
    }

    private void closeState(Facts facts, int state) {
      for (int layer = 0; layer < layers; layer++) {
        putLong(closings, state * layers + layer, longAt(kernels, state * layers + layer));
      }
      boolean changed = true;
      for (int round = 0; round < MOST_ROUNDS && changed; round++) {
        changed = false;
        for (int variable = 0; variable < VARIABLES; variable++) {
          int into = layersFor(facts, state, variable);
          changed = addStarts(longAt(facts.starts, variable), state, into) || changed;
        }
      }
    }

    private boolean addStarts(long starts, int state, int into) {
      boolean changed = false;
      for (int layer = 0; layer < layers; layer++) {
        long before = longAt(closings, state * layers + layer);
        if (has(into, layer) && (starts & ~before) != 0) {
          putLong(closings, state * layers + layer, before | starts);
          changed = true;
        }
      }
      return changed;
    }

    /** In which layers a state expects a variable. */
    private int layersFor(Facts facts, int state, int variable) {
      long waiting = closingOf(state) & longAt(facts.ahead, SIGNS + variable);
      if (layers == 1) {
        return waiting != 0 ? 1 : 0;
      }
      int into = 0;
      for (int item = 0; item < ITEMS; item++) {
        if ((waiting >>> item & 1) != 0) {
          int rest = at(facts.rests, item);
          into |= rest & ALL_LOOKS;
          into |= (rest & HOLLOW_REST) != 0 ? looksOfItem(state, item) : 0;
        }
      }
      return into;
    }

    private int looksOfItem(int state, int item) {
      int set = 0;
      for (int layer = 0; layer < layers; layer++) {
        set |= (longAt(closings, state * layers + layer) >>> item & 1) != 0 ? 1 << layer : 0;
      }
      return set;
    }

    void write(StringBuilder page, Grammar grammar, int state) {
      long items = core(state);
      boolean isFirst = true;
      for (int item = 0; item < ITEMS; item++) {
        if ((items >>> item & 1) != 0) {
          if (!isFirst) {
            page.append(' ');
          }
          isFirst = false;
          grammar.write(page, item / DOTS - 1, item % DOTS);
          writeLooks(page, state, item);
        }
      }
    }

    private void writeLooks(StringBuilder page, int state, int item) {
      if (layers > 1) {
        page.append('/');
        for (int layer = 0; layer < layers; layer++) {
          if ((longAt(kernels, state * layers + layer) >>> item & 1) != 0) {
            page.append(letterOf(layer));
          }
        }
      }
    }
  }

  /** The first text that leads to each state. */
  private static final class Beginnings {
    private int edition = NONE;
    private int count;
    private int[] lengths;
    private int[] origins;
    private int[] symbols;
    private int[] known;
    private int[] one = new int[FIRST_STATES];
    private int[] other = new int[FIRST_STATES];

    Beginnings(int first) {
      lengths = new int[first];
      origins = new int[first];
      symbols = new int[first];
      known = new int[first];
    }

    void refresh(int now, Automaton automaton, Shorts shorts) {
      if (edition != now) {
        edition = now;
        clear(automaton.count);
        for (int round = 0; round < count; round++) {
          int state = nearestUnknown(shorts);
          if (state != NONE) {
            put(known, state, 1);
            reach(automaton, shorts, state);
          }
        }
      }
    }

    private void clear(int states) {
      count = states;
      lengths = stretched(lengths, count);
      origins = stretched(origins, count);
      symbols = stretched(symbols, count);
      known = stretched(known, count);
      Arrays.fill(lengths, NONE);
      Arrays.fill(known, 0);
      put(lengths, 0, 0);
      put(origins, 0, NONE);
    }

    private int nearestUnknown(Shorts shorts) {
      int best = NONE;
      for (int state = 0; state < count; state++) {
        if (at(known, state) == 0 && at(lengths, state) != NONE && (best == NONE
            || isAhead(shorts, state, at(origins, best), at(symbols, best), at(lengths, best)) < 0)) {
          best = state;
        }
      }
      return best;
    }

    private void reach(Automaton automaton, Shorts shorts, int from) {
      for (int symbol = 0; symbol < SYMBOLS; symbol++) {
        int state = automaton.move(from, symbol);
        int more = shorts.lengthOf(symbol);
        if (state >= 0 && more != NONE && at(known, state) == 0) {
          int length = at(lengths, from) + more;
          if (at(lengths, state) == NONE || isAhead(shorts, state, from, symbol, length) > 0) {
            put(origins, state, from);
            put(symbols, state, symbol);
            put(lengths, state, length);
          }
        }
      }
    }

    /** Below 0 if the text of a state is ahead of another way's text, above 0 if it is behind. */
    private int isAhead(Shorts shorts, int state, int origin, int symbol, int length) {
      if (at(lengths, state) != length) {
        return Integer.compare(at(lengths, state), length);
      }
      one = stretched(one, length);
      other = stretched(other, length);
      spell(shorts, one, at(origins, state), at(symbols, state), length);
      spell(shorts, other, origin, symbol, length);
      for (int i = 0; i < length; i++) {
        if (at(one, i) != at(other, i)) {
          return Integer.compare(at(one, i), at(other, i));
        }
      }
      return 0;
    }

    /** Writes a text from its end on, as each state tells only from where it is reached. */
    private void spell(Shorts shorts, int[] row, int origin, int symbol, int length) {
      int end = length;
      int from = origin;
      int over = symbol;
      for (int back = 0; back < count && from != NONE; back++) {
        end -= shorts.lengthOf(over);
        shorts.copyText(over, row, end);
        over = at(symbols, from);
        from = at(origins, from);
      }
    }

    int shownLength(int state) {
      return at(lengths, state) == NONE ? LENGTH_OF_NONE : at(lengths, state);
    }

    void write(StringBuilder page, Shorts shorts, int state) {
      int length = at(lengths, state);
      if (length == NONE) {
        page.append("none");
        return;
      }
      one = stretched(one, length);
      spell(shorts, one, at(origins, state), at(symbols, state), length);
      for (int i = 0; i < length; i++) {
        page.append(letterOf(at(one, i)));
      }
    }
  }

  /** The actions of one kind. */
  private static final class Table {
    private final int kind;
    private final Automaton own;
    private int edition = NONE;
    private int clashCount;
    private int settledCount;
    // For each state and look: the complete items by whose rules may be reduced.
    private long[] reduces = new long[FIRST_STATES * LOOKS];
    private int[] actions = new int[FIRST_STATES * LOOKS];

    Table(int kind, Automaton own) {
      this.kind = kind;
      this.own = own;
    }

    void refresh(int now, Grammar grammar, Facts facts, Automaton looking) {
      if (edition != now) {
        edition = now;
        reduces = stretchedLong(reduces, own.count * LOOKS);
        actions = stretched(actions, own.count * LOOKS);
        Arrays.fill(reduces, 0);
        for (int sign = 0; sign < LOOKS; sign++) {
          findReduces(facts, sign);
        }
        if (kind == 2) {
          mergeReduces(facts, looking);
        }
        findActions(grammar);
      }
    }

    private void findReduces(Facts facts, int sign) {
      long fit = kind == 1 ? facts.endsBefore(sign) : facts.allEnds();
      for (int state = 0; state < own.count && kind != 2; state++) {
        long items = kind == 3 ? longAt(own.closings, state * LOOKS + sign) : own.closingOf(state);
        putLong(reduces, state * LOOKS + sign, items & fit);
      }
    }

    private void mergeReduces(Facts facts, Automaton looking) {
      long fit = facts.allEnds();
      for (int state = 0; state < looking.count; state++) {
        int into = own.findCore(looking.core(state));
        for (int sign = 0; sign < LOOKS && into != NONE; sign++) {
          long items = longAt(looking.closings, state * LOOKS + sign) & fit;
          int place = into * LOOKS + sign;
          putLong(reduces, place, longAt(reduces, place) | items);
        }
      }
    }

    private void findActions(Grammar grammar) {
      clashCount = 0;
      settledCount = 0;
      for (int state = 0; state < own.count; state++) {
        for (int sign = 0; sign < LOOKS; sign++) {
          int action = decide(grammar, state, sign);
          put(actions, state * LOOKS + sign, action);
          clashCount += action == CLASH ? 1 : 0;
        }
      }
    }

    private int decide(Grammar grammar, int state, int sign) {
      int many = countActions(state, sign);
      if (many == 0) {
        return NONE;
      }
      int shift = shiftAt(state, sign);
      int rule = lowestRule(reducesAt(state, sign));
      if (many == 1) {
        return shift != NONE ? shift : accepts(state, sign) ? ACCEPT : REDUCE - rule;
      }
      int rank = at(grammar.ranks, sign);
      int rankOfRule = many == 2 && shift != NONE ? grammar.rankOfRule(rule) : 0;
      if (rank <= 0 || rankOfRule <= 0) {
        return CLASH;
      }
      settledCount++;
      if (rankOfRule != rank) {
        return rankOfRule > rank ? REDUCE - rule : shift;
      }
      int side = at(grammar.sides, sign);
      return side == LEFT_SIDE ? REDUCE - rule : side == RIGHT_SIDE ? shift : NONE;
    }

    private boolean accepts(int state, int sign) {
      // The first rule's look is END, and that is the last layer.
      int place = state * own.layers + own.layers - 1;
      return sign == END && (longAt(own.kernels, place) & LAST_ITEM) != 0;
    }

    private int shiftAt(int state, int sign) {
      return sign == END ? NONE : at(own.moves, state * SYMBOLS + sign);
    }

    private long reducesAt(int state, int sign) {
      return longAt(reduces, state * LOOKS + sign);
    }

    private int countActions(int state, int sign) {
      return Long.bitCount(reducesAt(state, sign)) + (shiftAt(state, sign) != NONE ? 1 : 0)
          + (accepts(state, sign) ? 1 : 0);
    }

    int actionAt(int state, int sign) {
      return at(actions, state * LOOKS + sign);
    }

    int looksOf(Grammar grammar, int state, int rule) {
      long item = itemBit(rule, grammar.length(rule));
      int set = 0;
      for (int sign = 0; sign < LOOKS; sign++) {
        set |= (reducesAt(state, sign) & item) != 0 ? 1 << sign : 0;
      }
      return set;
    }

    int answerOfClash(int nth, int what) {
      int spot = spotOfClash(nth);
      int state = spot / LOOKS;
      int sign = spot % LOOKS;
      switch (what) {
        case 0:
          return state;
        case 1:
          return sign;
        case 2:
          return countActions(state, sign);
        case 3:
          return shiftAt(state, sign);
        default:
          return lowestRule(reducesAt(state, sign));
      }
    }

    int answerOfAll(int what) {
      switch (what) {
        case 0:
          return settledCount;
        case 1:
          return countRows();
        default:
          return countPlainActions();
      }
    }

    /** Where a clash is: six times its state, and its sign. */
    private int spotOfClash(int nth) {
      int ahead = nth;
      for (int spot = 0; spot < own.count * LOOKS; spot++) {
        if (at(actions, spot) == CLASH) {
          if (ahead == 0) {
            return spot;
          }
          ahead--;
        }
      }
      return 0;
    }

    private int countRows() {
      int many = 0;
      for (int state = 0; state < own.count; state++) {
        boolean isNew = true;
        for (int earlier = 0; earlier < state && isNew; earlier++) {
          isNew = !sameRows(earlier, state);
        }
        many += isNew ? 1 : 0;
      }
      return many;
    }

    private boolean sameRows(int one, int other) {
      for (int sign = 0; sign < LOOKS; sign++) {
        if (actionAt(one, sign) != actionAt(other, sign)) {
          return false;
        }
      }
      return true;
    }

    private int countPlainActions() {
      int many = 0;
      for (int spot = 0; spot < own.count * LOOKS; spot++) {
        many += at(actions, spot) == NONE || at(actions, spot) == CLASH ? 0 : 1;
      }
      return many;
    }
  }

  /** A reading, and the steps of the one that was begun ahead of it. */
  private static final class Reading {
    private static final int GOING = 0;
    private static final int ACCEPTED = 1;
    private static final int REFUSED = 2;
    private static final int STOPPED = 3;
    // Each of the steps adds four parts at most, and one for the bracket.
    private static final int MOST_PENDING = 1024;
    private static final int BRACKET = 10;

    private boolean isThere;
    private int kind;
    private int outcome;
    private int place;
    private int height;
    private final int[] heap = new int[MOST_STEPS + 1];
    private int stepCount;
    private int[] steps = new int[MOST_STEPS];
    private int countBefore;
    private int[] stepsBefore = new int[MOST_STEPS];
    private final int[] pending = new int[MOST_PENDING];

    void open(int kindOfTable) {
      int[] spare = stepsBefore;
      stepsBefore = steps;
      countBefore = stepCount;
      steps = spare;
      stepCount = 0;
      isThere = true;
      kind = kindOfTable;
      outcome = GOING;
      place = 0;
      put(heap, 0, 0);
      height = 1;
    }

    void finish(Table table, Grammar grammar, int[] text, int length) {
      for (int i = 0; i < MOST_STEPS && outcome == GOING; i++) {
        advance(table, grammar, text, length);
      }
    }

    int advance(Table table, Grammar grammar, int[] text, int length) {
      int sign = place < length ? at(text, place) : END;
      int action = table.actionAt(at(heap, height - 1), sign);
      put(steps, stepCount, action);
      stepCount++;
      if (action >= 0) {
        put(heap, height, action);
        height++;
        place++;
      } else if (action <= REDUCE) {
        int rule = REDUCE - action;
        height -= grammar.length(rule);
        put(heap, height, table.own.move(at(heap, height - 1), SIGNS + grammar.left(rule)));
        height++;
      } else {
        outcome = action == ACCEPT ? ACCEPTED : REFUSED;
      }
      outcome = outcome == GOING && stepCount >= MOST_STEPS ? STOPPED : outcome;
      return action;
    }

    private boolean hasTree() {
      return isThere && outcome == ACCEPTED;
    }

    void writePile(StringBuilder page) {
      for (int i = 0; i < height && isThere; i++) {
        if (i > 0) {
          page.append(' ');
        }
        page.append(at(heap, i));
      }
    }

    void writeDerivation(StringBuilder page) {
      boolean isFirst = true;
      for (int i = stepCount - 1; i >= 0 && isThere; i--) {
        if (at(steps, i) <= REDUCE) {
          if (!isFirst) {
            page.append(' ');
          }
          isFirst = false;
          page.append(REDUCE - at(steps, i));
        }
      }
    }

    /** From its end on: the last reduce is the root, and tells the last part first. */
    void writeTree(StringBuilder page, Grammar grammar) {
      if (!hasTree()) {
        return;
      }
      put(pending, 0, SIGNS);
      int waiting = 1;
      int later = stepCount;
      for (int done = 0; done < MOST_PENDING && waiting > 0; done++) {
        waiting--;
        int part = at(pending, waiting);
        if (part >= BRACKET) {
          page.append('(');
          page.append(letterOfSymbol(part - BRACKET));
        } else if (part < SIGNS) {
          page.append(letterOfSymbol(part));
        } else {
          later = reduceAhead(later);
          page.append(')');
          waiting = expand(grammar, REDUCE - at(steps, later), waiting);
        }
      }
      page.reverse();
    }

    /** The last step ahead of a place that is a reduce. */
    private int reduceAhead(int later) {
      for (int i = later - 1; i > 0; i--) {
        if (at(steps, i) <= REDUCE) {
          return i;
        }
      }
      return 0;
    }

    private int expand(Grammar grammar, int rule, int waiting) {
      int many = waiting;
      put(pending, many, BRACKET + SIGNS + grammar.left(rule));
      many++;
      for (int i = 0; i < grammar.length(rule); i++) {
        put(pending, many, grammar.symbol(rule, i));
        many++;
      }
      return many;
    }

    int worth(Grammar grammar, int[] text) {
      if (!hasTree()) {
        return NONE;
      }
      int many = 0;
      int next = 0;
      for (int i = 0; i < stepCount; i++) {
        int action = at(steps, i);
        if (action >= 0) {
          put(pending, many, at(text, next) + 1);
          next++;
          many++;
        } else if (action <= REDUCE) {
          int rule = REDUCE - action;
          many -= grammar.length(rule);
          put(pending, many, worthOfRule(at(grammar.acts, rule), many, grammar.length(rule)));
          many++;
        }
      }
      return at(pending, 0);
    }

    private int worthOfRule(int act, int from, int many) {
      if (many == 0) {
        return act == 1 ? 1 : 0;
      }
      long result = at(pending, from);
      for (int i = from + 1; i < from + many; i++) {
        long part = at(pending, i);
        switch (act) {
          case 0:
            result += part;
            break;
          case 1:
            result = result * part % MODULUS;
            break;
          case 2:
            result -= part;
            break;
          default:
            result = Math.max(result, part);
        }
      }
      return (int) Math.floorMod(result, (long) MODULUS);
    }

    int countShared() {
      int same = 0;
      for (int i = 0; i < stepCount && i < countBefore; i++) {
        if (at(steps, i) != at(stepsBefore, i)) {
          return same;
        }
        same++;
      }
      return same;
    }
  }
}
