/** Section 1 of the document, "Grammars": a test for each sentence that names a boundary case. */
public final class GrammarEdgesTest {
  private static final Class<?> STATE = IllegalStateException.class;
  private static final Check CHECK = new Check("GrammarEdgesTest");
  private static final String CHAIN = "A>B B>C C>D D>E";
  private static final String BACKWARDS = "D>E C>D B>C A>B";

  public static void main(String[] args) {
    letters();
    none();
    tenAtMost();
    noTwoAreTheSame();
    grows();
    reached();
    useful();
    leftOf();
    hollow();
    first();
    follow();
    followReaches();
    ring();
    textsAreOrdered();
    shortestOfFive();
    longestOfFive();
    whereOthersStood();
    rankOfRules();
    actsAtFirst();
    valuesOfSigns();
    valuesWithoutParts();
    valuesOfOnePart();
    valuesWrapAround();
    treesAsTexts();
    CHECK.end();
  }

  private static String all(Used x, int what) {
    StringBuilder row = new StringBuilder();
    for (int variable = 0; variable < 5; variable++) {
      row.append(variable == 0 ? "" : " ").append(x.ofVariable(variable, what));
    }
    return row.toString();
  }

  private static void asked(String rules, int what, String due) {
    CHECK.due("ofVariable of " + what + " by " + rules, all(Check.grammar(rules), what), due);
  }

  /** "SIGNS: 0 to 4, written a to e. VARIABLES: 0 to 4, written A to E." */
  private static void letters() {
    Used x = new Used();
    x.rule(0, 4, 0, 4, 5, 9);
    x.rule(4, 3, 1, 2, 3, 0);
    x.rule(2, 3, 6, 7, 8, 0);
    x.rule(1, 0, 0, 0, 0, 0);
    x.rule(3, 1, 0, 0, 0, 0);
    CHECK.due("letters", Check.rules(x), "A>aeAE E>bcd C>BCD B> D>a");
  }

  /** "RULES are numbered from 0, at most 10 (none at first)" */
  private static void none() {
    Used x = new Used();
    CHECK.due("no rule at first", x.house(0), 0);
    CHECK.due("none that is useful", x.house(1), 0);
    CHECK.due("none that is needless", x.needless(), 0);
    for (int what = 0; what < 6; what++) {
      CHECK.due("without rules: " + what, all(x, what), what == 4 ? "32 0 0 0 0" : "0 0 0 0 0");
    }
    CHECK.due("no sentence", x.sentence(0) + x.shortest(0) + x.sentences(0), "nonenone0");
    CHECK.due("the first is 0", x.rule(0, 0, 0, 0, 0, 0), 0);
  }

  private static void tenAtMost() {
    Used x = new Used();
    for (int i = 0; i < 10; i++) {
      CHECK.due("the next number", x.rule(i % 5, 1, i / 5, 0, 0, 0), i);
    }
    CHECK.fails("an eleventh", STATE, x, () -> x.rule(0, 0, 0, 0, 0, 0));
    CHECK.due("one goes", x.drop(0), 9);
    CHECK.due("so that a tenth can come", x.rule(0, 0, 0, 0, 0, 0), 9);
    CHECK.fails("and again no eleventh", STATE, x, () -> x.rule(0, 2, 0, 0, 0, 0));
    CHECK.due("rules", Check.rules(x), "B>a C>a D>a E>a A>b B>b C>b D>b E>b A>");
  }

  /** "no two have the same LEFT and RIGHT" */
  private static void noTwoAreTheSame() {
    Used x = Check.grammar("A>abcd B>");
    CHECK.due("other left", x.rule(1, 4, 0, 1, 2, 3), 2);
    CHECK.due("fewer symbols", x.rule(0, 3, 0, 1, 2, 3), 3);
    int[][] others = {{9, 1, 2, 3}, {0, 9, 2, 3}, {0, 1, 9, 3}, {0, 1, 2, 9}};
    for (int i = 0; i < 4; i++) {
      int[] o = others[i];
      CHECK.due("one other symbol", x.rule(0, 4, o[0], o[1], o[2], o[3]), 4 + i);
    }
    x.act(0, 2);
    CHECK.fails("the first, with another act", STATE, x, () -> x.rule(0, 4, 0, 1, 2, 3));
    CHECK.fails("the last", STATE, x, () -> x.rule(0, 4, 0, 1, 2, 9));
    CHECK.fails("one that is shorter", STATE, x, () -> x.rule(0, 3, 0, 1, 2, 9));
    CHECK.fails("an empty one", STATE, x, () -> x.rule(1, 0, 1, 1, 1, 1));
    x.drop(0);
    CHECK.due("what is gone can come again", x.rule(0, 4, 0, 1, 2, 3), 7);
    x.drop(6);
    x.undo();
    CHECK.fails("what came back by undo()", STATE, x, () -> x.rule(0, 4, 0, 1, 2, 9));
  }

  /** "GROWS, if it has a RULE all VARIABLES of whose RIGHT GROW (the least set of such)" */
  private static void grows() {
    asked("A>", 0, "1 0 0 0 0");
    asked("A>abcd", 0, "1 0 0 0 0");
    asked("A>A", 0, "0 0 0 0 0");
    asked("A>B B>A", 0, "0 0 0 0 0");
    asked("A>aBb B>bbbA", 0, "0 0 0 0 0");
    asked("A>BBBC B>", 0, "0 1 0 0 0");
    asked("A>CBBB B>", 0, "0 1 0 0 0");
    asked("A>BBBC B> C>", 0, "1 1 1 0 0");
    asked(CHAIN, 0, "0 0 0 0 0");
    asked(CHAIN + " E>", 0, "1 1 1 1 1");
    asked("E>a " + BACKWARDS, 0, "1 1 1 1 1");
    // By all rules: what is not reached grows, too.
    asked("A>a E>e D>ED", 0, "1 0 0 0 1");
  }

  /** "A is REACHED, if it GROWS; and each VARIABLE in the RIGHT of a USEFUL RULE is." */
  private static void reached() {
    asked("A>A B>b", 1, "0 0 0 0 0");
    asked("A>aB", 1, "0 0 0 0 0");
    asked("A>", 1, "1 0 0 0 0");
    asked("B>A A>", 1, "1 0 0 0 0");
    asked("A>a A>BC B>b", 1, "1 0 0 0 0");
    asked("A>abcB B>b", 1, "1 1 0 0 0");
    asked("A>Babc B>b", 1, "1 1 0 0 0");
    asked(CHAIN + " E>", 1, "1 1 1 1 1");
    asked(BACKWARDS + " E>", 1, "1 1 1 1 1");
    asked(CHAIN, 1, "0 0 0 0 0");
  }

  /** "A RULE is USEFUL, if its LEFT is REACHED, and all VARIABLES of its RIGHT GROW." */
  private static void useful() {
    Used x = Check.grammar("A>a A>aaaD A>BBBB B> B>E C>c E>EE C>A B>b");
    int[] due = {1, 0, 1, 1, 0, 0, 0, 0, 1};
    for (int rule = 0; rule < 9; rule++) {
      CHECK.due("useful: " + x.text(rule), x.ofRule(rule, 4), due[rule]);
    }
    CHECK.due("how many", x.house(1), 4);
    CHECK.due("needless", x.needless(), 5);
    CHECK.due("what is left", Check.rules(x), "A>a A>BBBB B> B>b");
    Used none = Check.grammar("A>A B>b C>");
    CHECK.due("A does not grow: none is useful", none.house(1), 0);
    CHECK.due("all are needless", none.needless(), 3);
    Used ten = Check.grammar("A>a A>b A>c A>d A>e A>aB B>a B>b B>c B>");
    CHECK.due("all ten are useful", ten.house(1), 10);
    CHECK.due("none of ten is needless", ten.needless(), 0);
    Used last = Check.grammar("A>a A>b A>c A>d A>e A>aB B>a B>b B>c C>");
    CHECK.due("the last of ten is needless", last.needless(), 1);
  }

  /** "5 how many RULES it is LEFT of (of all)" */
  private static void leftOf() {
    asked("", 5, "0 0 0 0 0");
    asked("E>EE D>d A>Ba B>b A>C D>D E>e", 5, "2 1 0 2 2");
    asked("A>A A>B A>C A>D A>E A>a A>b A>c A>d A>e", 5, "10 0 0 0 0");
  }

  /** "A VARIABLE is HOLLOW, if the empty TEXT COMES OF it." */
  private static void hollow() {
    asked("A>", 2, "1 0 0 0 0");
    asked("A>a", 2, "0 0 0 0 0");
    asked("A>A A>", 2, "1 0 0 0 0");
    asked("A>BBBB B>", 2, "1 1 0 0 0");
    asked("A>BBBa B>", 2, "0 1 0 0 0");
    asked("A>aBBB B>", 2, "0 1 0 0 0");
    asked("A>BBBC B> C>c", 2, "0 1 0 0 0");
    asked("A>CBBB B> C>c", 2, "0 1 0 0 0");
    asked(CHAIN + " E>", 2, "1 1 1 1 1");
    asked("E> " + BACKWARDS, 2, "1 1 1 1 1");
    asked("A>aB A> B>AA", 2, "1 1 0 0 0");
    // By useful rules alone.
    asked("A>a B>", 2, "0 0 0 0 0");
    asked("A>a A>B B>B B>C", 2, "0 0 0 0 0");
  }

  /** "FIRST of a SYMBOL: all SIGNS with which TEXTS begin that COME OF it." */
  private static void first() {
    asked("A>", 3, "0 0 0 0 0");
    asked("A>A A>", 3, "0 0 0 0 0");
    asked("A>aA A>bA A>cA A>dA A>e", 3, "31 0 0 0 0");
    asked("A>BBBa B>", 3, "1 0 0 0 0");
    asked("A>BBBB B> B>e", 3, "16 16 0 0 0");
    asked("A>BCDE B> C> D> D>d E>e", 3, "24 0 0 8 16");
    asked("A>BCDE B>b C> D> E>e", 3, "2 2 0 0 16");
    asked("A>Aa A>b", 3, "2 0 0 0 0");
    asked("A>Aa A>b A>", 3, "3 0 0 0 0");
    asked(CHAIN + " E>e", 3, "16 16 16 16 16");
    asked(BACKWARDS + " E>e E>b", 3, "18 18 18 18 18");
    asked("A>a A>bC B>c C>C", 3, "1 0 0 0 0");
  }

  /** "(END, too; so that of A always has END)" */
  private static void follow() {
    asked("", 4, "32 0 0 0 0");
    asked("A>A", 4, "32 0 0 0 0");
    asked("A>aA", 4, "32 0 0 0 0");
    asked("B>Ab B>b", 4, "32 0 0 0 0");
    asked("A>", 4, "32 0 0 0 0");
    asked("A>Ba B>b", 4, "32 1 0 0 0");
    asked("A>AA A>a A>e", 4, "49 0 0 0 0");
    asked("A>aBC B>b C>", 4, "32 32 32 0 0");
    asked("A>aBC B>b C> C>c", 4, "32 36 32 0 0");
    asked("A>BBBB B>b B>", 4, "32 34 0 0 0");
    asked("A>aAa A>bAb A>cAc A>dAd A>eAe A>", 4, "63 0 0 0 0");
    // By useful rules alone: D is not reached, and what is behind it is not either.
    asked("A>B B>b D>Be", 4, "32 32 0 0 0");
    asked("A>B B>b A>BcD", 4, "32 32 0 0 0");
  }

  /** FOLLOW of the last one comes from A through all five. */
  private static void followReaches() {
    asked(CHAIN + " E>e", 4, "32 32 32 32 32");
    asked(BACKWARDS + " E>e", 4, "32 32 32 32 32");
    asked("E>e D>aE C>bD B>cC A>dB A>Aa", 4, "33 33 33 33 33");
    asked("A>BCDE B>b C> C>c D> D>d E>", 4, "32 44 40 32 32");
  }

  /** "A grammar has a RING, if some VARIABLE COMES OF itself by one RULE or more." */
  private static void ring() {
    ringOf("", false);
    ringOf("A>", false);
    ringOf("A>A", false);
    ringOf("A>A A>", true);
    ringOf("A>aA A>", false);
    ringOf("A>Aa A>", false);
    ringOf("A>AB A>a B>b", false);
    ringOf("A>AB A>a B>", true);
    ringOf("A>BBBA A>a B>", true);
    ringOf("A>ABBB A>a B>", true);
    ringOf("A>BBBA A>a B>b", false);
    ringOf(CHAIN + " E>e", false);
    ringOf(CHAIN + " E>e E>A", true);
    ringOf(BACKWARDS + " E>A A>a", true);
    ringOf("A>aB B>bC C>cD D>dE E>E E>e", true);
    ringOf("A>aB A> B>AB B>b", true);
    ringOf("A>aB A>b B>AB B>b", false);
    ringOf("A>a B>B B>b", false);
    ringOf("A>a A>C C>C", false);
    ringOf("A>aB B>AC B>b C>c C>", false);
  }

  private static void ringOf(String rules, boolean due) {
    Used x = Check.grammar(rules);
    CHECK.due("hasRing by " + rules, x.hasRing(), due);
    CHECK.due("trees by " + rules, x.trees() == -7, due);
    if (due) {
      CHECK.due("twin by " + rules, x.twin(3), "none");
    }
  }

  /** "TEXTS are ordered by fewer SIGNS, then as in a dictionary." */
  private static void textsAreOrdered() {
    Used x = Check.grammar("A>eee A>aaa A>ea A>ae A>aa A>e A>a A>aab A>aba A>");
    String[] due = {"", "a", "e", "aa", "ae", "ea", "aaa", "aab", "aba", "eee", "none"};
    for (int nth = 0; nth < due.length; nth++) {
      CHECK.due("sentence " + nth, x.sentence(nth), due[nth]);
    }
    CHECK.due("the first", x.shortest(0), "");
    x.drop(9);
    CHECK.due("the first that is not empty", x.shortest(0), "a");
    CHECK.due("fewer signs", Check.grammar("A>aaaa A>eee").shortest(0), "eee");
    CHECK.due("the last place", Check.grammar("A>abcd A>abcc A>abce").shortest(0), "abcc");
    CHECK.due("the first place", Check.grammar("A>baaa A>aeee").shortest(0), "aeee");
    CHECK.due("through variables", Check.grammar("A>BC A>bae B>b C>ad C>ae").shortest(0), "bad");
  }

  private static void shortestOfFive() {
    Used x = Check.grammar(BACKWARDS + " E>");
    Used y = Check.grammar(BACKWARDS + " E>eE E>b");
    for (int variable = 0; variable < 5; variable++) {
      CHECK.due("of nothing: " + variable, x.shortest(variable), "");
      CHECK.due("of one: " + variable, y.shortest(variable), "b");
    }
    Used less = Check.grammar("A>a B>b A>cC");
    CHECK.due("none for what is not reached", less.shortest(1), "none");
    CHECK.due("none for what does not grow", less.shortest(2), "none");
    CHECK.due("none for what has no rule", less.shortest(4), "none");
  }

  /** Each VARIABLE once as the one on top of five, with 4 * 4 * 4 * 4 * 4 SIGNS. */
  private static void longestOfFive() {
    for (int top = 0; top < 5; top++) {
      StringBuilder rules = new StringBuilder();
      for (int down = 0; down < 5; down++) {
        char part = down == 4 ? 'e' : variable(top + down + 1);
        rules.append(variable(top + down)).append('>').append(("" + part).repeat(4)).append(' ');
      }
      Used x = Check.grammar(rules + (top == 0 ? "A>eeeA" : "A>" + variable(top)));
      for (int down = 0; down < 5; down++) {
        String due = "e".repeat(1024 >> 2 * down);
        CHECK.due("shortest of " + variable(top + down), x.shortest((top + down) % 5), due);
      }
      for (int kind = 0; kind < 2; kind++) {
        int state = x.goes(kind, 0, top);
        CHECK.due("beginning by " + rules, x.beginning(kind, state), "e".repeat(1024));
      }
    }
  }

  private static char variable(int number) {
    return (char) ('A' + number % 5);
  }

  /** What a RULE had that stood at the same place before does not count. */
  private static void whereOthersStood() {
    Used x = Check.grammar("A>aBCD B>b C>c D>d A>BCDE");
    x.drop(4);
    Check.add(x, "A>e");
    CHECK.due("E is not reached", all(x, 1), "1 1 1 1 0");
    CHECK.due("FOLLOW", all(x, 4), "32 4 8 32 0");
    CHECK.due("FIRST", all(x, 3), "17 2 4 8 0");
    x.drop(4);
    Check.add(x, "A>");
    CHECK.due("HOLLOW", all(x, 2), "1 0 0 0 0");
    CHECK.due("FIRST", all(x, 3), "1 2 4 8 0");
    CHECK.due("shortest", x.shortest(0), "");
    CHECK.due("no ring", x.hasRing(), false);
    x.drop(0);
    CHECK.due("all but one are needless", x.needless() + Check.rules(x), "3A>");
  }

  /** "RANK (0 to 9, at first 0)" and "that of the last SIGN of RIGHT (0 without one)" */
  private static void rankOfRules() {
    Used x = Check.grammar("A> A>BBBB B>abcd B>dBBB A>BBBe B>ea");
    for (int sign = 0; sign < 5; sign++) {
      CHECK.due("at first", x.rank(sign, sign == 4 ? 9 : sign + 1, 2), 0);
    }
    int[] due = {0, 0, 4, 4, 9, 1};
    for (int rule = 0; rule < 6; rule++) {
      CHECK.due("rank of " + x.text(rule), x.ofRule(rule, 3), due[rule]);
    }
    CHECK.due("that before", x.rank(4, 0, 0), 9);
    CHECK.due("down to 0", x.rank(4, 0, 0), 0);
    CHECK.due("rank of " + x.text(4), x.ofRule(4, 3), 0);
  }

  /** "Each RULE has an ACT (0 at first)." */
  private static void actsAtFirst() {
    Used x = new Used();
    for (int i = 0; i < 10; i++) {
      x.rule(i / 5, 1, i % 5, 0, 0, 0);
      CHECK.due("act at first", x.ofRule(i, 2), 0);
      CHECK.due("act(" + i + ", 3)", x.act(i, 3), 0);
    }
    x.drop(0);
    CHECK.due("a new last one", Check.add(x, "E>"), 9);
    CHECK.due("its act", x.ofRule(9, 2), 0);
    CHECK.due("act of those ahead", x.ofRule(0, 2) * 10 + x.ofRule(8, 2), 33);
  }

  private static int valueOf(Used x, String text) {
    Check.type(x, text).read(1);
    return x.value();
  }

  /** "VALUE of a SIGN: 1 to 5 for a to e." */
  private static void valuesOfSigns() {
    Used x = Check.grammar("A>a A>b A>c A>d A>e");
    for (int sign = 0; sign < 5; sign++) {
      CHECK.due("value of a sign", valueOf(x, "" + (char) ('a' + sign)), sign + 1);
    }
  }

  /** "1 their product (1 without parts)", "(0 and 2 and 3: 0 without parts)" */
  private static void valuesWithoutParts() {
    int[] due = {0, 1, 0, 0};
    for (int act = 0; act < 4; act++) {
      Used x = Check.grammar("A>");
      x.act(0, act);
      CHECK.due("without parts, act " + act, valueOf(x, ""), due[act]);
    }
  }

  private static void valuesOfOnePart() {
    for (int act = 0; act < 4; act++) {
      Used x = Check.grammar("A>d");
      x.act(0, act);
      CHECK.due("one part, act " + act, valueOf(x, "d"), 4);
      Used four = Check.grammar("A>badc");
      four.act(0, act);
      CHECK.due("four parts, act " + act, valueOf(four, "badc"), new int[] {10, 24, 1000003 - 6, 4}[act]);
    }
  }

  /** "always MOD 1000003 (the number from 0 to 1000002 that differs by a multiple of 1000003)" */
  private static void valuesWrapAround() {
    // B is 1 - 2, so the greatest of all numbers.
    Used x = Check.grammar("A>B A>Ba A>BBBB B>ab");
    x.act(3, 2);
    CHECK.due("one below 0", valueOf(x, "ab"), 1000002);
    CHECK.due("one above that", valueOf(x, "aba"), 0);
    CHECK.due("the sum of four", valueOf(x, "abababab"), 999999);
    x.act(2, 1);
    CHECK.due("the product of four", valueOf(x, "abababab"), 1);
    x.act(2, 2);
    CHECK.due("one less three", valueOf(x, "abababab"), 2);
    x.act(2, 3);
    CHECK.due("the greatest of four", valueOf(x, "abababab"), 1000002);
    x.act(1, 1);
    CHECK.due("times one", valueOf(x, "aba"), 1000002);
    x.act(1, 3);
    CHECK.due("the greatest is not the last", valueOf(x, "aba"), 1000002);
    x.act(3, 1);
    CHECK.due("a product below", valueOf(x, "aba"), 2);
    Used zero = Check.grammar("A>Bb B>aa");
    zero.act(0, 2);
    CHECK.due("just 0", valueOf(zero, "aab"), 0);
    Used powers = Check.grammar("A>BBBB B>ee");
    powers.act(0, 1);
    powers.act(1, 1);
    CHECK.due("a product that is not MOD yet", valueOf(powers, "eeeeeeee"), 390625);
  }

  /** "a SIGN its letter; otherwise the letter of the VARIABLE, "(", those of RIGHT .. and ")"" */
  private static void treesAsTexts() {
    treeOf("A>", "", "A()");
    treeOf("A>abcd", "abcd", "A(abcd)");
    treeOf("A>e", "e", "A(e)");
    treeOf("A>aAb A>", "ab", "A(aA()b)");
    treeOf("A>BCDE B> C> D> E>", "", "A(B()C()D()E())");
    treeOf(CHAIN + " E>e", "e", "A(B(C(D(E(e)))))");
  }

  private static void treeOf(String rules, String text, String due) {
    Used x = Check.type(Check.grammar(rules), text);
    x.read(3);
    CHECK.due("tree of " + text + " by " + rules, x.tree(), due);
  }
}
