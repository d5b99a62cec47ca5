/** Section 2 of the document, "Tables": a test for each sentence that names a boundary case. */
public final class TableEdgesTest {
  private static final Class<?> STATE = IllegalStateException.class;
  private static final Class<?> INDEX = IndexOutOfBoundsException.class;
  private static final Check CHECK = new Check("TableEdgesTest");
  // With looks they have just 40 states and just 41, and no clash but in kind 0.
  private static final String FORTY = "A>AcB A>B B>BeC B>C C>aAa C>e C>bE E>aE E>c C>caaa";
  private static final String FORTY_ONE = "A>AcB A>C B>BdC B>C C>aCb C>bE E>aE E>a C>caaa";

  public static void main(String[] args) {
    withoutRules();
    dots();
    emptyRules();
    numbersOfStates();
    looksOfTheFirst();
    looksBehind();
    fortyStates();
    fortyOneStates();
    fortyAndBack();
    actionNumbers();
    reducesByKind();
    mergedLooks();
    ranks();
    sides();
    justTwoActions();
    settledOfOneAndAnother();
    clashNumbers();
    clashesOfAll();
    rowsAndActions();
    beginnings();
    beginningsInOrder();
    manyStates();
    manyMoreStates();
    onTheWayToMany();
    usefulRulesAlone();
    CHECK.end();
  }

  private static String row(Used x, int kind, int state) {
    StringBuilder all = new StringBuilder();
    for (int sign = 0; sign < 6; sign++) {
      all.append(sign == 0 ? "" : " ").append(x.action(kind, state, sign));
    }
    return all.toString();
  }

  private static String allGoes(Used x, int kind, int state) {
    StringBuilder all = new StringBuilder();
    for (int variable = 0; variable < 5; variable++) {
      all.append(variable == 0 ? "" : " ").append(x.goes(kind, state, variable));
    }
    return all.toString();
  }

  private static String texts(Used x, int kind) {
    StringBuilder all = new StringBuilder();
    for (int state = 0; state < x.states(kind); state++) {
      all.append(state == 0 ? "" : " | ").append(x.state(kind, state));
    }
    return all.toString();
  }

  /** "RULE -1 is S>A": it is there also if A does not grow, and without rules. */
  private static void withoutRules() {
    for (String rules : new String[] {"", "A>aA", "B>b", "A>A"}) {
      Used x = Check.grammar(rules);
      for (int kind = 0; kind < 4; kind++) {
        String what = " of " + kind + " by " + rules;
        CHECK.due("states" + what, texts(x, kind), kind == 3 ? "S>.A/$ | S>A./$" : "S>.A | S>A.");
        CHECK.due("actions of 0" + what, row(x, kind, 0), "-1 -1 -1 -1 -1 -1");
        CHECK.due("actions of 1" + what, row(x, kind, 1), "-1 -1 -1 -1 -1 -2");
        CHECK.due("goes of 0" + what, allGoes(x, kind, 0), "1 -1 -1 -1 -1");
        CHECK.due("goes of 1" + what, allGoes(x, kind, 1), "-1 -1 -1 -1 -1");
        CHECK.due("beginning of 0" + what, x.beginning(kind, 0), "");
        CHECK.due("beginning of 1" + what, x.beginning(kind, 1), "none");
        CHECK.due("clashes" + what, x.clashes(kind), 0);
        CHECK.due("rows" + what, x.ofTable(kind, 1), 2);
        CHECK.due("one that accepts" + what, x.ofTable(kind, 2), 1);
        CHECK.due("begin" + what, x.begin(kind), 2);
        CHECK.due("read" + what, x.read(kind), -100);
      }
    }
  }

  /** "a DOT at one of the places of RIGHT, from ahead of all to behind all" */
  private static void dots() {
    Used x = Check.grammar("A>abcd");
    CHECK.due("dots", texts(x, 0), "S>.A | A>a.bcd | S>A. | A>ab.cd | A>abc.d | A>abcd.");
    CHECK.due("dots with looks", texts(x, 3),
        "S>.A/$ | A>a.bcd/$ | S>A./$ | A>ab.cd/$ | A>abc.d/$ | A>abcd./$");
    Used y = Check.grammar("A>AAAA A>a");
    CHECK.due("all dots of one rule", y.state(0, 5), "A>A.AAA A>AA.AA A>AAA.A A>AAAA.");
  }

  /** An empty rule has its dot ahead of all and behind all: it stands in the closing alone. */
  private static void emptyRules() {
    Used x = Check.grammar("A>");
    for (int kind = 0; kind < 4; kind++) {
      CHECK.due("states of " + kind, x.states(kind), 2);
      CHECK.due("state of " + kind, x.state(kind, 0), kind == 3 ? "S>.A/$" : "S>.A");
      String due = kind == 0 ? "-10 -10 -10 -10 -10 -10" : "-1 -1 -1 -1 -1 -10";
      CHECK.due("reduces at once: " + kind, row(x, kind, 0), due);
      CHECK.due("looks of " + kind, x.looks(kind, 0, 0), kind == 0 ? 63 : 32);
    }
  }

  /** "STATE by STATE, for SYMBOLS 0 to 9, each MOVE that is no STATE yet is the next one" */
  private static void numbersOfStates() {
    Used x = Check.grammar("A>E A>eD A>B A>aA D>d E>bE E>c B>d");
    CHECK.due("numbers", texts(x, 0), "S>.A | A>a.A | E>b.E | E>c. | B>d. | A>e.D | S>A. | A>B. | A>E."
        + " | A>aA. | E>bE. | D>d. | A>eD.");
    Used late = Check.grammar("A>aE A>bE E>c E>d");
    CHECK.due("each once", texts(late, 1), "S>.A | A>a.E | A>b.E | S>A. | E>c. | E>d. | A>aE. | A>bE.");
  }

  /** "ITEMS have a LOOK besides, a SIGN or END (of the first one END)" */
  private static void looksOfTheFirst() {
    Used x = Check.grammar("A>aAa A>bAb A>c");
    CHECK.due("of the first", x.state(3, 0), "S>.A/$");
    CHECK.due("inside", x.state(3, x.action(3, x.action(3, 0, 0), 0)), "A>a.Aa/a");
    Used all = Check.grammar("A>Aa A>Ab A>Ac A>Ad A>Ae A>e");
    CHECK.due("all looks, rising", all.state(3, all.action(3, 0, 4)), "A>e./abcde$");
    CHECK.due("all looks as a set", all.looks(3, all.action(3, 0, 4), 5), 63);
  }

  /** "with which rows begin that COME OF what stands behind that VARIABLE, with l behind that" */
  private static void looksBehind() {
    Used x = Check.grammar("A>BCDE B>b C> C>c D> D>d E> E>e");
    int state = x.action(3, 0, 1);
    CHECK.due("all that is behind may be hollow", x.state(3, state), "B>b./cde$");
    Used y = Check.grammar("A>BCDa B>b C> C>c D> D>d");
    CHECK.due("the last one is not", y.state(3, y.action(3, 0, 1)), "B>b./acd");
    Used z = Check.grammar("A>BC B>b C>c C>Cd");
    CHECK.due("nothing is hollow", z.state(3, z.action(3, 0, 1)), "B>b./c");
    Used last = Check.grammar("A>aB B>b");
    CHECK.due("nothing is behind", last.state(3, last.action(3, last.action(3, 0, 0), 1)), "B>b./$");
  }

  /** "If the STATES of KIND 3 are more than 40, tables of KINDS 2 and 3 are not there (MANY)." */
  private static void fortyStates() {
    Used x = Check.grammar(FORTY);
    CHECK.due("just forty", x.states(3), 40);
    CHECK.due("merged", x.states(2), 21);
    CHECK.due("the last one is there", x.action(3, 39, 5) + " " + row(x, 3, 39).isEmpty(), "-1 false");
    CHECK.due("the last one has a text", x.state(3, 39).contains("/"), true);
    CHECK.fails("but none behind it", INDEX, x, () -> x.state(3, 40));
    for (int kind = 2; kind < 4; kind++) {
      CHECK.due("no clash of " + kind, x.clashes(kind), 0);
      CHECK.due("it can be begun: " + kind, x.begin(kind), kind == 3 ? 40 : 21);
      CHECK.due("and read: " + kind, Check.type(x, "aea").read(kind), 10);
    }
    CHECK.due("sound", x.isSound(), true);
  }

  private static void fortyOneStates() {
    Used x = Check.grammar(FORTY_ONE);
    for (int kind = 2; kind < 4; kind++) {
      int k = kind;
      CHECK.due("one too many: " + k, x.states(k), -5);
      CHECK.fails("begin(" + k + ")", STATE, x, () -> x.begin(k));
      CHECK.fails("read(" + k + ")", STATE, x, () -> x.read(k));
      CHECK.fails("clashes(" + k + ")", STATE, x, () -> x.clashes(k));
      CHECK.fails("clash(" + k + ")", STATE, x, () -> x.clash(k, 0, 0));
      CHECK.fails("ofTable(" + k + ")", STATE, x, () -> x.ofTable(k, 0));
      CHECK.fails("state(" + k + ")", INDEX, x, () -> x.state(k, 0));
      CHECK.fails("action(" + k + ")", INDEX, x, () -> x.action(k, 0, 0));
      CHECK.fails("goes(" + k + ")", INDEX, x, () -> x.goes(k, 0, 0));
      CHECK.fails("looks(" + k + ")", INDEX, x, () -> x.looks(k, 0, 0));
      CHECK.fails("beginning(" + k + ")", INDEX, x, () -> x.beginning(k, 0));
    }
    for (int kind = 0; kind < 2; kind++) {
      CHECK.due("without looks: " + kind, x.states(kind), 19);
      CHECK.due("clashes: " + kind, x.clashes(kind), kind == 0 ? 2 : 0);
      CHECK.due("state: " + kind, x.state(kind, 18).isEmpty(), false);
    }
    CHECK.due("begin(1)", x.begin(1), 19);
    CHECK.due("sound", x.isSound(), true);
  }

  private static void fortyAndBack() {
    Used x = Check.grammar(FORTY_ONE);
    x.drop(8);
    CHECK.due("fewer", x.states(3) > 0 && x.states(3) <= 40, true);
    int fewer = x.states(3);
    CHECK.due("it reads", Check.type(x, "aba").read(3) < 0, true);
    x.undo();
    CHECK.due("too many again", x.states(3) + " " + x.states(2), "-5 -5");
    x.drop(8);
    CHECK.due("fewer again", x.states(3), fewer);
    CHECK.due("there is a state", x.state(3, fewer - 1).isEmpty(), false);
  }

  /** "a SHIFT is the number of the STATE, NONE if there is no ACTION, ACCEPT -2, a REDUCE -10 - r" */
  private static void actionNumbers() {
    Used x = Check.grammar("A>aaaa B>a B>b B>c B>d B>e B>aa B>bb B>cc A>eB");
    CHECK.due("a shift", x.action(1, 0, 0), 1);
    CHECK.due("no action", x.action(1, 0, 1), -1);
    CHECK.due("none at the end", x.action(1, 0, 5), -1);
    CHECK.due("accept", x.action(1, x.goes(1, 0, 0), 5), -2);
    int first = x.action(1, x.action(1, x.action(1, x.action(1, 0, 0), 0), 0), 0);
    CHECK.due("by rule 0", x.action(1, first, 5), -10);
    CHECK.due("by rule 9", x.action(1, x.goes(1, x.action(1, 0, 4), 1), 5), -19);
    CHECK.due("no shift for END", x.action(0, 0, 5), -1);
    CHECK.due("by rule 1, which is empty", Check.grammar("A>A A>").action(1, 0, 5), -11);
    CHECK.due("a clash", Check.grammar("A>B A> B>").action(1, 0, 5), -3);
  }

  /** "KIND 0 all SIGNS and END; KIND 1 FOLLOW of LEFT; KIND 3 those of the ITEMS" */
  private static void reducesByKind() {
    Used x = Check.grammar("A>Bb A>aBc B>d");
    int outer = x.action(0, 0, 3);
    int inner = x.action(3, x.action(3, 0, 0), 3);
    int[] due = {63, 6, 6, 2};
    for (int kind = 0; kind < 4; kind++) {
      CHECK.due("looks of " + kind, x.looks(kind, outer, 2), due[kind]);
      CHECK.due("of a rule that is not behind all: " + kind, x.looks(kind, 0, 2), 0);
    }
    CHECK.due("looks inside", x.looks(3, inner, 2), 4);
  }

  /** "KIND 2 all that this has in STATES of KIND 3 that have, without LOOKS, the same ITEMS" */
  private static void mergedLooks() {
    Used x = Check.grammar("A>Ba A>bBc A>dc A>bda B>d");
    int alone = x.action(2, 0, 3);
    int inside = x.action(2, x.action(2, 0, 1), 3);
    CHECK.due("by FOLLOW both clash", x.clashes(1), 2);
    CHECK.due("merged", x.looks(2, alone, 4) + " " + x.looks(2, inside, 4), "1 4");
    CHECK.due("merged is less than FOLLOW", x.clashes(2), 0);
    CHECK.due("FOLLOW", x.looks(1, alone, 4) + " " + x.looks(1, inside, 4), "5 5");
  }

  /** The sign c with a rank, against the rule A>AdA with the rank of d. */
  private static int settled(int ofSign, int side, int ofRule) {
    Used x = Check.grammar("A>AcA A>AdA A>e");
    x.rank(2, ofSign, side);
    x.rank(3, ofRule, 0);
    CHECK.due("the state", x.state(1, 6), "A>A.cA A>A.dA A>AdA.");
    return x.action(1, 6, 2);
  }

  /** "above 0", "the REDUCE, if the RANK of the RULE is greater, the SHIFT, if it is less" */
  private static void ranks() {
    int clash = -3;
    int shift = 3;
    int reduce = -11;
    for (int side = 0; side < 3; side++) {
      CHECK.due("0 and 0", settled(0, side, 0), clash);
      CHECK.due("sign 0", settled(0, side, 1), clash);
      CHECK.due("rule 0", settled(1, side, 0), clash);
      CHECK.due("sign 0, rule 9", settled(0, side, 9), clash);
      CHECK.due("sign 9, rule 0", settled(9, side, 0), clash);
      CHECK.due("1 and 2", settled(1, side, 2), reduce);
      CHECK.due("2 and 1", settled(2, side, 1), shift);
      CHECK.due("8 and 9", settled(8, side, 9), reduce);
      CHECK.due("9 and 8", settled(9, side, 8), shift);
      CHECK.due("1 and 9", settled(1, side, 9), reduce);
      CHECK.due("9 and 1", settled(9, side, 1), shift);
    }
  }

  /** "the REDUCE with SIDE 0, the SHIFT with 1, none with 2 (SETTLED all the same)" */
  private static void sides() {
    for (int rank = 1; rank <= 9; rank += 8) {
      CHECK.due("left", settled(rank, 0, rank), -11);
      CHECK.due("right", settled(rank, 1, rank), 3);
      CHECK.due("neither", settled(rank, 2, rank), -1);
    }
    Used x = Check.grammar("A>AcA A>e");
    for (int side = 0; side < 3; side++) {
      x.rank(2, 1, side);
      for (int kind = 0; kind < 4; kind++) {
        CHECK.due("settled, side " + side, x.ofTable(kind, 0) > 0, true);
        CHECK.due("no clash, side " + side, x.clashes(kind), 0);
      }
    }
    // The sign's own side tells, not that of the rule's last sign.
    Used two = Check.grammar("A>AcA A>AdA A>e");
    two.rank(2, 5, 1);
    two.rank(3, 5, 2);
    CHECK.due("c is ahead", two.action(1, 6, 2), 3);
    CHECK.due("d is ahead", two.action(1, 5, 3), -1);
  }

  /** "If there are just two ACTIONS, a SHIFT and a REDUCE" */
  private static void justTwoActions() {
    Used two = Check.grammar("A>a A>B B>a");
    ranked(two);
    int state = two.action(0, 0, 0);
    CHECK.due("two reduces", two.action(0, state, 0) + " " + two.action(0, state, 5), "-3 -3");
    CHECK.due("are not settled", two.ofTable(0, 0), 0);
    Used three = Check.grammar("A>a A>B B>a B>aa");
    ranked(three);
    CHECK.due("a shift and two reduces", three.action(0, three.action(0, 0, 0), 0), -3);
    CHECK.due("are not settled", three.ofTable(0, 0), 0);
    Used end = Check.grammar("A>A A>a");
    ranked(end);
    CHECK.due("accept and a reduce", end.action(1, end.goes(1, 0, 0), 5), -3);
    CHECK.due("are not settled", end.ofTable(1, 0), 0);
    Used one = Check.grammar("A>aA A>b");
    ranked(one);
    CHECK.due("one action alone is not settled", one.ofTable(1, 0) + one.ofTable(0, 0), 0);
  }

  private static void ranked(Used x) {
    for (int sign = 0; sign < 5; sign++) {
      x.rank(sign, 9, 0);
    }
  }

  /** What is settled in one table is not there to be settled in another one. */
  private static void settledOfOneAndAnother() {
    Used x = Check.grammar("A>aAb A>a");
    x.rank(0, 1, 0);
    CHECK.due("kind 0", x.ofTable(0, 0), 1);
    CHECK.due("kind 1", x.ofTable(1, 0), 0);
    CHECK.due("in kind 0 it is the reduce", x.action(0, 1, 0), -11);
    CHECK.due("in kind 1 it is the shift", x.action(1, 1, 0), 1);
    x.rank(0, 1, 2);
    CHECK.due("in kind 0 it is none", x.action(0, 1, 0), -1);
    CHECK.due("settled all the same", x.ofTable(0, 0), 1);
  }

  /** "CLASHES of a table are numbered from 0, STATE by STATE, for a to e, then END." */
  private static void clashNumbers() {
    Used x = Check.grammar("A>BA A>a A>e A>C B>a B>e C>a B>C");
    int before = -1;
    int many = x.clashes(0);
    for (int nth = 0; nth < many; nth++) {
      int place = x.clash(0, nth, 0) * 6 + x.clash(0, nth, 1);
      CHECK.due("rises", place > before, true);
      CHECK.due("is one", x.action(0, x.clash(0, nth, 0), x.clash(0, nth, 1)), -3);
      before = place;
    }
    int found = 0;
    for (int state = 0; state < x.states(0); state++) {
      for (int sign = 0; sign < 6; sign++) {
        found += x.action(0, state, sign) == -3 ? 1 : 0;
      }
    }
    CHECK.due("all of them", found, many);
    CHECK.due("the first is for a", x.clash(0, 0, 1), 0);
    CHECK.due("the last is for END", x.clash(0, many - 1, 1), 5);
    CHECK.fails("none behind the last", INDEX, x, () -> x.clash(0, many, 0));
    Used none = Check.grammar("A>a");
    CHECK.due("no clash", none.clashes(0), 0);
    CHECK.fails("no first one", INDEX, none, () -> none.clash(0, 0, 0));
  }

  /** "2 how many ACTIONS, 3 the STATE of the SHIFT (NONE), 4 the smallest RULE of a REDUCE" */
  private static void clashesOfAll() {
    Used x = Check.grammar("C>b A>bb A>C A>D A>E A>b D>b E>b");
    CHECK.due("actions with a shift", x.clash(0, 1, 2), 5);
    CHECK.due("the shift", x.state(0, x.clash(0, 1, 3)), "A>bb.");
    CHECK.due("the smallest rule", x.clash(0, 1, 4), 0);
    CHECK.due("actions without a shift", x.clash(0, 0, 2), 4);
    CHECK.due("no shift", x.clash(0, 0, 3), -1);
    Used last = Check.grammar("B>a C>a D>a A>bA A>Aa A>Aaa E>a A>b A>EE A>E");
    CHECK.due("the smallest rule is not 0", last.clash(1, 0, 4) > 0, true);
    Used first = Check.grammar("A>BA A>a B> C>c");
    CHECK.due("the first state, the first sign", first.clash(0, 0, 0) + " " + first.clash(0, 0, 1), "0 0");
    CHECK.due("then the next sign", first.clash(0, 1, 0) > 0, true);
    Used accepts = Check.grammar("A>BA A>a B> C>c");
    CHECK.due("a shift and an empty rule", accepts.clash(1, 0, 2), 2);
    CHECK.due("the empty rule", accepts.clash(1, 0, 4), 2);
    Used ring = Check.grammar("B>A A>B A>a");
    int end = ring.clashes(1) - 1;
    CHECK.due("accept counts", ring.clash(1, end, 2), 2);
    CHECK.due("accept is no shift", ring.clash(1, end, 3), -1);
    CHECK.due("nor a rule", ring.clash(1, end, 4), 0);
  }

  /** "1 how many rows it has, like ones counted once", "2 .. neither NONE nor CLASH" */
  private static void rowsAndActions() {
    // The rows of A>a.B, A>c.B and A>d.B are alike: each has one shift to B>b. alone.
    Used x = Check.grammar("A>aB A>cB A>dB B>b");
    for (int kind = 0; kind < 4; kind++) {
      CHECK.due("states of " + kind, x.states(kind), 9);
      CHECK.due("rows of " + kind, x.ofTable(kind, 1), 7);
      CHECK.due("actions of " + kind, x.ofTable(kind, 2), 3 + 3 + 1 + 4 * (kind == 0 ? 6 : 1));
    }
    Used alike = Check.grammar("A>bB A>cB B>a");
    CHECK.due("alike, ahead of unlike ones", alike.ofTable(1, 1), 6);
    Used first = Check.grammar("A>bB A>cC B>a C>a");
    CHECK.due("unlike for a alone", first.ofTable(1, 1), 8);
    Used end = Check.grammar("A>b A>c");
    CHECK.due("unlike for END alone", end.ofTable(1, 1), 4);
    Used clash = Check.grammar("A>B A> B>");
    CHECK.due("a row with a clash", clash.ofTable(1, 1), 3);
    CHECK.due("a clash is no action here", clash.ofTable(1, 2), 2);
    Used all = Check.grammar("A>B A> B>");
    CHECK.due("a row of clashes", all.ofTable(0, 2), 7);
  }

  /** "BEGINNING of a STATE: .. empty of STATE 0; none, if there is none" */
  private static void beginnings() {
    Used x = Check.grammar("A>bA A>a");
    for (int kind = 0; kind < 4; kind++) {
      CHECK.due("of 0", x.beginning(kind, 0), "");
      CHECK.due("of the last", x.beginning(kind, 4), "ba");
    }
    // State 0 has a beginning also where nothing else is one.
    CHECK.due("A does not grow", Check.grammar("A>bA").beginning(0, 0), "");
    Used hollow = Check.grammar("A>BC B> C> C>c");
    CHECK.due("also others have none of length", hollow.beginning(1, hollow.goes(1, 0, 1)), "");
    CHECK.due("also where A comes to nothing", hollow.beginning(1, hollow.goes(1, 0, 0)), "");
    Used five = Check.grammar("A>BBBB B>CCCC C>DDDD D>EEEE E>aaaa");
    CHECK.due("the longest text of A", five.beginning(0, five.goes(0, 0, 0)), "a".repeat(1024));
    CHECK.due("with looks", five.beginning(3, five.goes(3, 0, 0)), "a".repeat(1024));
    // No two states here have beginnings that are as long, and longer than 64.
    Used alone = Check.grammar("A>c A>BBd B>DDDD D>EEEE E>aaaa");
    int behind = alone.goes(1, alone.goes(1, 0, 1), 1);
    CHECK.due("of two that are long", alone.beginning(1, behind), "a".repeat(128));
    CHECK.due("and a sign", alone.beginning(1, alone.action(1, behind, 3)), "a".repeat(128) + "d");
  }

  /** "the first TEXT, by their order, that COMES OF a row of SYMBOLS which leads .. to it" */
  private static void beginningsInOrder() {
    Used x = Check.grammar("A>eC A>aaC A>bC C>d");
    int state = x.action(0, x.action(0, 0, 4), 3);
    CHECK.due("C>d.", x.state(0, state), "C>d.");
    CHECK.due("fewer signs, then as in a dictionary", x.beginning(0, state), "bd");
    // A sign and a variable lead there; the sign's number is less, but the variable's text is ahead.
    Used tie = Check.grammar("A>bC A>BC B>a C>c");
    CHECK.due("of two that are as long", tie.beginning(0, tie.action(0, tie.goes(0, 0, 1), 2)), "ac");
    Used late = Check.grammar("A>aeC A>BC B>ad C>c");
    CHECK.due("by the last letter", late.beginning(0, late.action(0, late.goes(0, 0, 1), 2)), "adc");
    farBeginnings("B>cCCC C>BBBA E>aDDD A>dbed A>BBBD C>BBEc D>eAAA E>BBBA D>BBBC C>EEEE", 39924);
    longTie("A>dddd E>AAAA D>EEEE A>DeB A>DCB C>a B>b", "ab");
    longTie("A>dddd E>AAAA D>EEEE A>DaB A>DCB C>e B>b", "ab");
    Used y = Check.grammar("A>BBd B>ba B>ab B>ccc");
    CHECK.due("the first text of each", y.beginning(0, y.goes(0, y.goes(0, 0, 1), 1)), "abab");
    Used z = Check.grammar("A>BD A>bbbD B>c B>aa D>dE E>e E>");
    int behind = z.action(1, z.goes(1, 0, 1), 3);
    CHECK.due("through a variable", z.beginning(1, behind), "cd");
    CHECK.due("what is hollow is nothing", z.beginning(1, z.goes(1, behind, 4)), "cd");
    CHECK.due("what a sign leads to", z.beginning(1, z.action(1, behind, 4)), "cde");
  }

  /** No sentence bounds how many SIGNS a BEGINNING has: this is the most that a search found. */
  private static void farBeginnings(String rules, int most) {
    Used x = Check.grammar(rules);
    String[] due = Reference.of(rules).tables().beginnings(0);
    int longest = 0;
    for (int state = 0; state < x.states(0); state++) {
      String got = x.beginning(0, state);
      CHECK.due("beginning of " + state, got.equals(due[state]), true);
      longest = Math.max(longest, got.length());
    }
    CHECK.due("the longest", longest, most);
  }

  /** Two ways that lead to one state, unlike only behind 64 signs. */
  private static void longTie(String rules, String end) {
    Used x = Check.grammar(rules);
    int found = 0;
    for (int state = 0; state < x.states(0); state++) {
      if (x.state(0, state).equals("B>b.")) {
        CHECK.due("the one that is ahead", x.beginning(0, state), "d".repeat(64) + end);
        found++;
      }
    }
    CHECK.due("one state", found, 1);
  }

  /** No sentence bounds the STATES without LOOKS: all of them are there, however many there are. */
  private static void manyStates() {
    manyStatesOf("E>abae E>dBAB C>dEed A>aeA E>BDBC B>dddA A>dDE D>dddC E>d B>BdBC", 172);
    manyStatesOf("C>abae E>dBAB C>dEed A>aeA E>BDBC B>dddA A>dDE D>dddC E> B>BdBD", 161);
  }

  /** Just as many as fit in rows of some lengths, and one more; and the most that a search found. */
  private static void manyMoreStates() {
    countedStates("A>DDBB D>aCaC A>abbA B>DbbB C>DbBB B>aAbA D>bbbb A>DBDB B>DAbB B>bbbD", 64);
    countedStates("A>DDBB D>aCaA A>aBbA B>DbbB C>DbBB C>aAbA A>bbbb A>AABD B>DAbB B>bbbD", 65);
    countedStates("A>aCbB D>aaCa B>bCAA C>bbab C>bDbA C>aaaB C>aabB B>aaaD C>baaB D>Abab", 128);
    countedStates("C>abaA A>baCa D>aDAb C>bDaA B>abCD B>bAbC A>bbbb A>abBb D>bbBb D>AbaA", 129);
    countedStates("B>bbaC C>bbBB A>bbbD D>bbbC C>aaab D>babA B>aAaA C>abDb B>bbAC B>ABbb", 256);
    countedStates("B>aABc C>abaC A>abbA B>abaa B>baBc C>bbbB C>abBa B>bbCA A>babC A>bbbA", 257);
    countedStates("A>bbbA D>bbaA A>babD D>bbbB B>bbbC C>bbaB B>ba C>bbbD C>abAa B>bbCA", 512);
    countedStates("A>bbbA D>bbaA A>babD D>bbbB B>bbbC C>bbaB D>ba C>bbbD D>abbA B>bbCC", 513);
    countedStates("B>acaA D>acaB B>cacC D>ccac A>acDb A>caCB C>cacA C>acaD D>aBBa D>cacB", 918);
  }

  private static void countedStates(String rules, int many) {
    Used x = Check.grammar(rules);
    Reference due = Reference.of(rules);
    CHECK.due("states by " + rules, x.states(1), many);
    for (int state : new int[] {0, 1, many / 2, many - 2, many - 1}) {
      sameState(x, due, 0, state);
      sameState(x, due, 1, state);
    }
    CHECK.fails("one more by " + rules, INDEX, x, () -> x.state(1, many));
    CHECK.due("digest by " + rules, x.digest(), due.digest());
  }

  /** States grow with each rule, and are fewer again. */
  private static void onTheWayToMany() {
    String[] rules = "D>ccac D>aBBa B>acaA A>acDb A>caCB C>cacA D>acaB B>cacC C>acaD D>cacB".split(" ");
    Used x = new Used();
    Reference due = new Reference();
    for (String rule : rules) {
      Check.add(x, rule);
      int[] right = new int[4];
      for (int i = 0; i < 4; i++) {
        right[i] = "abcdeABCDE".indexOf(rule.charAt(i + 2));
      }
      due.rule(rule.charAt(0) - 'A', 4, right[0], right[1], right[2], right[3]);
      CHECK.due("digest with " + rule, x.digest(), due.digest());
    }
    for (int i = 0; i < 6; i++) {
      CHECK.due("undone", x.undo(), due.undo());
      CHECK.due("states", x.states(0), due.states(0));
      CHECK.due("digest, undone", x.digest(), due.digest());
    }
  }

  private static void manyStatesOf(String rules, int many) {
    Used x = Check.grammar(rules);
    Reference due = Reference.of(rules);
    CHECK.due("states", x.states(0), many);
    CHECK.due("no looks", x.states(3), -5);
    for (int kind = 0; kind < 2; kind++) {
      for (int state = 0; state < many; state++) {
        sameState(x, due, kind, state);
      }
      for (int what = 0; what < 3; what++) {
        CHECK.due("all of " + kind, x.ofTable(kind, what), due.ofTable(kind, what));
      }
      CHECK.due("clashes of " + kind, x.clashes(kind), due.clashes(kind));
    }
    CHECK.due("digest", x.digest(), due.digest());
  }

  private static void sameState(Used x, Reference due, int kind, int state) {
    String what = " of " + kind + ", " + state;
    CHECK.due("state" + what, x.state(kind, state), due.state(kind, state));
    CHECK.due("beginning" + what, x.beginning(kind, state), due.beginning(kind, state));
    for (int sign = 0; sign < 6; sign++) {
      CHECK.due("action" + what, x.action(kind, state, sign), due.action(kind, state, sign));
    }
    for (int variable = 0; variable < 5; variable++) {
      CHECK.due("goes" + what, x.goes(kind, state, variable), due.goes(kind, state, variable));
    }
    for (int rule = 0; rule < 10; rule++) {
      CHECK.due("looks" + what, x.looks(kind, state, rule), due.looks(kind, state, rule));
    }
  }

  /** "All that follows is by USEFUL RULES alone, if nothing else is said." */
  private static void usefulRulesAlone() {
    Used x = Check.grammar("A>a A>bC C>cC D>d B>e");
    for (int kind = 0; kind < 4; kind++) {
      CHECK.due("states of " + kind, x.states(kind), 3);
      CHECK.due("no shift", x.action(kind, 0, 1), -1);
      CHECK.due("no goes", x.goes(kind, 0, 2), -1);
      for (int rule = 1; rule < 5; rule++) {
        CHECK.due("no looks", x.looks(kind, 1, rule), 0);
      }
    }
    Used y = Check.grammar("C>c B>b A>BcD A>B D>d");
    y.drop(4);
    CHECK.due("looks by useful rules alone", y.looks(1, y.action(1, 0, 1), 1), 32);
    CHECK.due("rules keep their numbers", y.action(1, y.action(1, 0, 1), 5), -11);
  }
}
