/** Promises 1 to 10: what changes the grammar. */
public final class GrammarTest {
  private static final Class<?> ARGUMENT = IllegalArgumentException.class;
  private static final Class<?> STATE = IllegalStateException.class;
  private static final Class<?> INDEX = IndexOutOfBoundsException.class;
  private static final Check CHECK = new Check("GrammarTest");

  public static void main(String[] args) {
    promise1();
    promise2();
    promise2Wrong();
    promise3();
    promise4();
    promise5();
    promise6();
    promise7();
    promise7Unfit();
    promise8();
    promise9();
    promise9Forgets();
    promise10();
    CHECK.end();
  }

  private static void promise1() {
    Used x = new Used();
    CHECK.due("new: house", Check.house(x), "0 0 0 0 0 0 -1 0 0");
    CHECK.due("new: typed", x.typed(), "");
    CHECK.due("new: pile", x.pile(), "");
    CHECK.due("new: states(0)", x.states(0), 2);
    CHECK.due("new: states(3)", x.states(3), 2);
    CHECK.due("new: sentence(0)", x.sentence(0), "none");
    CHECK.due("new: shared", x.shared(), 0);
    Used y = new Used();
    Check.add(y, "A>a");
    y.knock();
    CHECK.due("another object has a rule", x.house(0), 0);
    CHECK.due("another object was knocked at", x.house(8), 0);
  }

  private static void promise2() {
    Used x = new Used();
    CHECK.due("first rule", x.rule(0, 3, 0, 6, 1, 0), 0);
    CHECK.due("second rule", x.rule(4, 4, 9, 5, 4, 0), 1);
    CHECK.due("without right", x.rule(0, 0, -7, 10, 99, Integer.MIN_VALUE), 2);
    CHECK.due("with one that matters", x.rule(0, 1, 4, -1, -1, 10), 3);
    CHECK.due("rules", Check.rules(x), "A>aBb E>EAea A> A>e");
    CHECK.due("same right, other left", x.rule(1, 1, 4, 0, 0, 0), 4);
    CHECK.due("same beginning, longer", x.rule(0, 2, 4, 0, 0, 0), 5);
    CHECK.due("changes", x.house(3), 6);
    Check.add(x, "C>");
    x.act(6, 3);
    x.drop(6);
    CHECK.due("the same place again", Check.add(x, "D>d"), 6);
    CHECK.due("act of a new rule", x.ofRule(6, 2), 0);
  }

  private static void promise2Wrong() {
    Used x = Check.grammar("A>ab A>");
    int[][] wrong = {{-1, 0, 0, 0, 0, 0}, {5, 0, 0, 0, 0, 0}, {0, -1, 0, 0, 0, 0}, {0, 5, 0, 0, 0, 0},
        {0, 1, -1, 0, 0, 0}, {0, 1, 10, 0, 0, 0}, {0, 2, 0, 10, 0, 0}, {0, 3, 0, 0, -1, 0},
        {0, 4, 0, 0, 0, 10}, {Integer.MAX_VALUE, Integer.MIN_VALUE, 0, 0, 0, 0}};
    for (int[] w : wrong) {
      CHECK.fails("rule of wrong numbers", ARGUMENT, x, () -> x.rule(w[0], w[1], w[2], w[3], w[4], w[5]));
    }
    CHECK.fails("the same rule", STATE, x, () -> x.rule(0, 2, 0, 1, 0, 0));
    CHECK.fails("the same rule, other rest", STATE, x, () -> x.rule(0, 2, 0, 1, 7, 7));
    CHECK.fails("the same empty rule", STATE, x, () -> x.rule(0, 0, 3, 3, 3, 3));
    Used y = Check.grammar("A>a A>b A>c A>d A>e B>a B>b B>c B>d");
    CHECK.due("the tenth", Check.add(y, "B>e"), 9);
    CHECK.fails("an eleventh", STATE, y, () -> y.rule(2, 0, 0, 0, 0, 0));
    CHECK.fails("a wrong eleventh", ARGUMENT, y, () -> y.rule(2, 1, 10, 0, 0, 0));
    x.begin(1);
    CHECK.fails("the same rule with a reading", STATE, x, () -> x.rule(0, 0, 0, 0, 0, 0));
    CHECK.due("reading after a rule that threw", x.house(5), 1);
    Check.add(x, "B>");
    CHECK.due("reading after a rule", x.house(5), 0);
  }

  private static void promise3() {
    Used x = Check.grammar("A>a B>bcd C> A>BC");
    x.act(2, 3);
    x.act(3, 1);
    CHECK.due("drop(1)", x.drop(1), 3);
    CHECK.due("rules", Check.rules(x), "A>a C> A>BC");
    CHECK.due("act moved", x.ofRule(1, 2), 3);
    CHECK.due("act moved", x.ofRule(2, 2), 1);
    CHECK.fails("drop(-1)", INDEX, x, () -> x.drop(-1));
    CHECK.fails("drop(3)", INDEX, x, () -> x.drop(3));
    x.begin(0);
    CHECK.due("drop of the last", x.drop(2), 2);
    CHECK.due("reading after drop", x.house(5), 0);
    x.drop(0);
    CHECK.due("drop of the only one", x.drop(0), 0);
    CHECK.fails("drop without rules", INDEX, x, () -> x.drop(0));
    CHECK.due("changes", x.house(3), 8);
  }

  private static void promise4() {
    Used x = Check.grammar("A>aB B>b");
    CHECK.due("act(1, 3)", x.act(1, 3), 0);
    CHECK.due("act(1, 2)", x.act(1, 2), 3);
    CHECK.due("other rule", x.ofRule(0, 2), 0);
    x.begin(0);
    CHECK.due("the same act", x.act(1, 2), 2);
    CHECK.due("is a change all the same", x.house(3), 5);
    CHECK.due("and ends the reading", x.house(5), 0);
    CHECK.fails("act(2, 0)", INDEX, x, () -> x.act(2, 0));
    CHECK.fails("act(-1, 9)", INDEX, x, () -> x.act(-1, 9));
    CHECK.fails("act(0, 4)", ARGUMENT, x, () -> x.act(0, 4));
    CHECK.fails("act(0, -1)", ARGUMENT, x, () -> x.act(0, -1));
  }

  private static void promise5() {
    Used x = Check.grammar("A>AcA A>AdB A>e B>A");
    CHECK.due("rank(2, 9, 2)", x.rank(2, 9, 2), 0);
    CHECK.due("rank(2, 1, 0)", x.rank(2, 1, 0), 9);
    CHECK.due("rank(3, 0, 1)", x.rank(3, 0, 1), 0);
    CHECK.due("rank of a rule", x.ofRule(0, 3), 1);
    CHECK.due("rank of a rule whose last sign has none", x.ofRule(1, 3), 0);
    CHECK.due("rank of a rule without a sign", x.ofRule(3, 3), 0);
    x.drop(3);
    x.drop(1);
    x.rank(2, 1, 0);
    x.begin(1);
    CHECK.due("the same again", x.rank(2, 1, 0), 1);
    CHECK.due("ends the reading", x.house(5), 0);
    int[][] wrong = {{-1, 0, 0}, {5, 0, 0}, {0, -1, 0}, {0, 10, 0}, {0, 0, -1}, {0, 0, 3}};
    for (int[] w : wrong) {
      CHECK.fails("rank of wrong numbers", ARGUMENT, x, () -> x.rank(w[0], w[1], w[2]));
    }
    x.rank(4, 9, 2);
    CHECK.due("the last sign", x.rank(4, 0, 0), 9);
  }

  private static void promise6() {
    Used x = Check.grammar("B>Bb A>a C>c A>CD D>D A>C E>");
    x.act(5, 2);
    CHECK.due("needless", x.needless(), 4);
    CHECK.due("rules left", Check.rules(x), "A>a C>c A>C");
    CHECK.due("act of one that stays", x.ofRule(2, 2), 2);
    int before = x.house(3);
    x.begin(0);
    CHECK.due("needless again", x.needless(), 0);
    CHECK.due("is no change", x.house(3), before);
    CHECK.due("and leaves the reading", x.house(5), 1);
    Used y = Check.grammar("A>aA B>b");
    y.begin(0);
    CHECK.due("where A does not grow", y.needless(), 2);
    CHECK.due("none is left", y.house(0), 0);
    CHECK.due("ends the reading", y.house(5), 0);
  }

  private static void promise7() {
    Used x = Check.grammar("A>Aa A>Abcd B>A A>Ce A> D>DD");
    x.act(0, 1);
    x.act(3, 2);
    x.begin(3);
    CHECK.due("turn(0)", x.turn(0), 4);
    CHECK.due("rules", Check.rules(x), "E>aE E>bcdE B>A A>CeE A>E D>DD E>");
    CHECK.due("act of the first", x.ofRule(0, 2), 1);
    CHECK.due("act of the fourth", x.ofRule(3, 2), 2);
    CHECK.due("act of the last", x.ofRule(6, 2), 0);
    CHECK.due("ends the reading", x.house(5), 0);
    Used y = Check.grammar("B>Bb B>cA A>a");
    CHECK.due("the smallest one", y.turn(1), 2);
    CHECK.due("rules", Check.rules(y), "C>bC B>cAC A>a C>");
    CHECK.due("a change", y.house(3), 4);
    y.undo();
    CHECK.due("undone", Check.rules(y), "B>Bb B>cA A>a");
    CHECK.due("a left is used, also the first", Check.grammar("B>b A>Aa A>b").turn(0), 2);
    CHECK.due("a right is used, also the first", Check.grammar("A>BC A>Aa A>b").turn(0), 3);
    CHECK.due("the last symbol is used", Check.grammar("A>Aa A>b A>aaaB D>cccC").turn(0), -4);
    Used dropped = Check.grammar("A>aaaB A>Aa A>b");
    dropped.drop(0);
    CHECK.due("what was dropped is not used", dropped.turn(0), 1);
    Used z = Check.grammar("C>Caaa C>aaa");
    CHECK.due("never A", z.turn(2), 1);
    CHECK.due("rules", Check.rules(z), "B>aaaB C>aaaB B>");
  }

  private static void promise7Unfit() {
    unfit("no rule begins so", "A>aA A>b", 0);
    unfit("no rule at all", "A>Aa A>b", 1);
    unfit("all begin so", "A>Aa A>Ab", 0);
    unfit("one is just that", "A>Aa A>A A>b", 0);
    unfit("no variable is free", "A>Aa A>b B>CDE", 0);
    unfit("only A is free", "B>Ba B>b C>DE", 1);
    unfit("five symbols", "A>Aa A>bbbb", 0);
    unfit("ten rules", "A>Aa A>b A>c A>d A>e B>a B>b B>c B>d B>e", 0);
    Used nine = Check.grammar("A>Aa A>b A>c A>d A>e B>a B>b B>c B>d");
    CHECK.due("nine rules", nine.turn(0), 2);
    Used four = Check.grammar("A>Aaaa A>bbb B>bbbb");
    CHECK.due("four symbols that begin so", four.turn(0), 2);
    CHECK.due("rules", Check.rules(four), "C>aaaC A>bbbC B>bbbb C>");
    CHECK.fails("turn(-1)", ARGUMENT, four, () -> four.turn(-1));
    CHECK.fails("turn(5)", ARGUMENT, four, () -> four.turn(5));
  }

  private static void unfit(String why, String rules, int variable) {
    Used x = Check.grammar(rules);
    if (x.clashes(0) == 0) {
      x.begin(0);
    }
    String before = Check.shown(x);
    CHECK.due("turn: " + why, x.turn(variable), -4);
    CHECK.due("as before: " + why, Check.shown(x), before);
  }

  private static void promise8() {
    Used x = Check.grammar("A>a A>ab");
    CHECK.due("differ from nothing", x.differ(3), "a");
    x.begin(3);
    CHECK.due("shelve", x.shelve(), 2);
    CHECK.due("ends the reading", x.house(5), 0);
    CHECK.due("differ from itself", x.differ(3), "none");
    CHECK.due("house(4)", x.house(4), 2);
    x.drop(1);
    CHECK.due("the shelf stays", x.house(4), 2);
    CHECK.due("differ", x.differ(3), "ab");
    int before = x.house(3);
    x.shelve();
    x.shelve();
    CHECK.due("a change, also of the same", x.house(3), before + 2);
    x.drop(0);
    CHECK.due("shelve without rules", x.shelve(), 0);
    x.undo();
    CHECK.due("the shelf is undone", x.house(4), 1);
  }

  private static void promise9() {
    Used x = Check.grammar("A>a");
    x.act(0, 1);
    x.rank(0, 5, 1);
    x.rank(0, 6, 2);
    x.shelve();
    x.drop(0);
    Check.type(x, "ab");
    x.knock();
    x.begin(0);
    CHECK.due("undo of drop", x.undo(), 5);
    CHECK.due("ends the reading", x.house(5), 0);
    CHECK.due("rule is back", Check.rules(x), "A>a");
    CHECK.due("act is back", x.ofRule(0, 2), 1);
    CHECK.due("undo of shelve", x.undo(), 4);
    CHECK.due("shelf", x.house(4), 0);
    CHECK.due("undo of rank", x.undo(), 3);
    CHECK.due("rank", x.ofRule(0, 3), 5);
    x.undo();
    CHECK.due("rank", x.ofRule(0, 3), 0);
    x.undo();
    CHECK.due("act", x.ofRule(0, 2), 0);
    CHECK.due("the last", x.undo(), 0);
    CHECK.due("what is typed stays", x.typed(), "ab");
    CHECK.due("knocks stay", x.house(8), 1);
    CHECK.fails("undo of nothing", STATE, x, x::undo);
    x.begin(0);
    CHECK.fails("undo of nothing with a reading", STATE, x, x::undo);
    CHECK.due("reading", x.house(5), 1);
    Used y = Check.grammar("A>AcA A>e");
    y.rank(2, 1, 2);
    y.rank(2, 1, 1);
    int one = y.action(1, 4, 2);
    y.undo();
    CHECK.due("the side is back", y.action(1, 4, 2), -1);
    CHECK.due("it was another one", one, 3);
  }

  private static void promise9Forgets() {
    Used x = new Used();
    for (int i = 0; i < 10; i++) {
      x.rule(i / 5, 1, i % 5, 0, 0, 0);
    }
    CHECK.due("eight at most", x.house(3), 8);
    for (int i = 7; i >= 0; i--) {
      CHECK.due("undo", x.undo(), i);
      CHECK.due("rules", x.house(0), i + 2);
    }
    CHECK.fails("a ninth", STATE, x, x::undo);
    CHECK.due("the first two stay", Check.rules(x), "A>a A>b");
    Check.add(x, "B>");
    x.undo();
    CHECK.due("undone between", Check.rules(x), "A>a A>b");
    for (int i = 0; i < 30; i++) {
      x.act(0, i % 4);
    }
    x.undo();
    CHECK.due("after many", x.ofRule(0, 2), 0);
    for (int i = 0; i < 7; i++) {
      x.undo();
    }
    CHECK.due("eight back", x.ofRule(0, 2), 21 % 4);
  }

  private static void promise10() {
    Used x = Check.grammar("A>a");
    x.begin(0);
    CHECK.due("knock", x.knock(), 1);
    CHECK.due("knock", x.knock(), 2);
    CHECK.due("leaves the reading", x.house(5), 1);
    CHECK.due("is no change", x.house(3), 1);
    x.undo();
    CHECK.due("is not undone", x.knock(), 3);
    CHECK.due("house(8)", x.house(8), 3);
  }
}
