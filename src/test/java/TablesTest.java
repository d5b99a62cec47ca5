/** Promises 21 to 29: what is asked of tables. */
public final class TablesTest {
  private static final Class<?> ARGUMENT = IllegalArgumentException.class;
  private static final Class<?> STATE = IllegalStateException.class;
  private static final Class<?> INDEX = IndexOutOfBoundsException.class;
  private static final Check CHECK = new Check("TablesTest");
  // The one needs looks that are told apart, the other has 40 states with looks, the third 41.
  private static final String APART = "A>aBd A>bCd A>aCe A>bBe B>c C>c";
  private static final String FORTY = "A>Cab A>bBB A>Aa C>aa A>AC B>A A>bb C>Babb";
  private static final String FORTY_ONE = "A>a A>CBCB C>baCc B>B C> C>CAcb B>bb B>aCB";

  public static void main(String[] args) {
    promise21();
    promise22();
    promise23();
    promise23Settled();
    promise24();
    promise25();
    promise26();
    promise27();
    promise28();
    promise29();
    notThere();
    CHECK.end();
  }

  private static void promise21() {
    Used x = Check.grammar("A>aA A>b");
    for (int kind = 0; kind < 4; kind++) {
      CHECK.due("states(" + kind + ")", x.states(kind), 5);
    }
    CHECK.fails("states(-1)", ARGUMENT, x, () -> x.states(-1));
    CHECK.fails("states(4)", ARGUMENT, x, () -> x.states(4));
    Used forty = Check.grammar(FORTY);
    CHECK.due("forty", forty.states(3), 40);
    CHECK.due("forty, merged", forty.states(2), 19);
    Used more = Check.grammar(FORTY_ONE);
    CHECK.due("forty-one", more.states(3), -5);
    CHECK.due("forty-one, merged", more.states(2), -5);
    CHECK.due("without looks", more.states(1), 19);
    CHECK.due("without looks", more.states(0), 19);
    more.drop(7);
    CHECK.due("there again", more.states(3) > 0, true);
    more.undo();
    CHECK.due("not there again", more.states(3), -5);
    Used wide = Check.grammar("E>abae E>dBAB C>dEed A>aeA E>BDBC B>dddA A>dDE D>dddC E>e B>BdBD");
    CHECK.due("many states without looks", wide.states(0), 162);
    Used useless = Check.grammar("A>a A>bB C>c");
    CHECK.due("by useful rules alone", useless.states(0), 3);
  }

  private static void promise22() {
    Used x = Check.grammar("A>aA A>b");
    String[] due = {"S>.A", "A>a.A", "A>b.", "S>A.", "A>aA."};
    for (int state = 0; state < 5; state++) {
      CHECK.due("state(0, " + state + ")", x.state(0, state), due[state]);
      CHECK.due("state(2, " + state + ")", x.state(2, state), due[state]);
      CHECK.due("state(3, " + state + ")", x.state(3, state), due[state] + "/$");
    }
    Used y = Check.grammar("B>b A>AaA A>AaB A>a A>Bc B>Bb");
    CHECK.due("rules rise", y.state(1, y.goes(1, 0, 0)), "S>A. A>A.aA A>A.aB");
    int behind = y.action(1, y.goes(1, 0, 0), 0);
    CHECK.due("the same dot", y.state(1, behind), "A>Aa.A A>Aa.B");
    CHECK.due("dots rise", y.state(1, y.goes(1, behind, 0)), "A>A.aA A>AaA. A>A.aB");
    CHECK.due("looks", y.state(3, y.goes(3, 0, 0)), "S>A./$ A>A.aA/a$ A>A.aB/a$");
    CHECK.due("empty rules stand in the closing alone", Check.grammar("A>").state(3, 0), "S>.A/$");
    for (int kind : new int[] {-1, 4}) {
      CHECK.fails("state of no kind", INDEX, x, () -> x.state(kind, 0));
    }
    CHECK.fails("state(0, 5)", INDEX, x, () -> x.state(0, 5));
    CHECK.fails("state(3, -1)", INDEX, x, () -> x.state(3, -1));
  }

  private static void promise23() {
    Used x = Check.grammar("A>aA A>b");
    int[][] due = {{1, 2, -1, -1, -1, -1}, {1, 2, -1, -1, -1, -1}, {-11, -11, -11, -11, -11, -11},
        {-1, -1, -1, -1, -1, -2}, {-10, -10, -10, -10, -10, -10}};
    for (int state = 0; state < 5; state++) {
      for (int sign = 0; sign < 6; sign++) {
        CHECK.due("action(0, " + state + ", " + sign + ")", x.action(0, state, sign), due[state][sign]);
        int strict = due[state][sign] <= -10 && sign < 5 ? -1 : due[state][sign];
        CHECK.due("action(1, " + state + ", " + sign + ")", x.action(1, state, sign), strict);
        CHECK.due("action(2, " + state + ", " + sign + ")", x.action(2, state, sign), strict);
        CHECK.due("action(3, " + state + ", " + sign + ")", x.action(3, state, sign), strict);
      }
    }
    CHECK.fails("action(0, 0, 6)", ARGUMENT, x, () -> x.action(0, 0, 6));
    CHECK.fails("action(0, 0, -1)", ARGUMENT, x, () -> x.action(0, 0, -1));
    CHECK.fails("action(0, 5, 9)", INDEX, x, () -> x.action(0, 5, 9));
    CHECK.fails("action(4, 0, 0)", INDEX, x, () -> x.action(4, 0, 0));
    CHECK.fails("action(-1, 0, 0)", INDEX, x, () -> x.action(-1, 0, 0));
    Used y = Check.grammar("A>aA A>a A>A");
    CHECK.due("shift and reduce without ranks", y.action(0, 1, 0), -3);
    CHECK.due("accept and reduce", y.action(1, y.goes(1, 0, 0), 5), -3);
    Used z = Check.grammar(APART);
    int merged = z.action(2, z.action(2, 0, 0), 2);
    CHECK.due("merged looks clash", z.action(2, merged, 3), -3);
    int apart = z.action(3, z.action(3, 0, 0), 2);
    CHECK.due("looks apart", z.action(3, apart, 3), -14);
    CHECK.due("looks apart", z.action(3, apart, 4), -15);
  }

  /** The sign c has rank and side, and the rule ends in d with another rank. */
  private static void settle(int ofSign, int side, int ofRule, int due) {
    Used x = Check.grammar("A>AcA A>AdA A>e");
    x.rank(2, ofSign, side);
    x.rank(3, ofRule, (side + 1) % 3);
    // State 6 has A>AdA. and both dots ahead of c and d.
    CHECK.due("the state", x.state(1, 6), "A>A.cA A>A.dA A>AdA.");
    String what = "rank " + ofSign + " side " + side + ", rule " + ofRule;
    CHECK.due(what, x.action(1, 6, 2), due);
    CHECK.due(what + ": settled", x.ofTable(1, 0) > 0, due != -3);
  }

  private static void promise23Settled() {
    settle(1, 1, 2, -11);
    settle(1, 2, 2, -11);
    settle(2, 0, 1, 3);
    settle(2, 2, 1, 3);
    settle(9, 0, 9, -11);
    settle(9, 1, 9, 3);
    settle(9, 2, 9, -1);
    Used half = Check.grammar("A>AcA A>AdA A>e");
    half.rank(2, 5, 0);
    CHECK.due("the rule has no rank", half.action(1, 6, 2), -3);
    CHECK.due("neither has", half.action(1, 6, 3), -3);
    CHECK.due("both are c", half.action(1, 5, 2), -10);
    CHECK.due("the sign has none", half.action(1, 5, 3), -3);
    Used three = Check.grammar("A>a A>B B>a B>aa");
    three.rank(0, 1, 0);
    int state = three.action(0, 0, 0);
    CHECK.due("three actions are not settled", three.action(0, state, 0), -3);
    CHECK.due("two reduces are not settled", three.action(0, state, 1), -3);
    CHECK.due("none of these", three.ofTable(0, 0), 0);
    Used end = Check.grammar("A>A A>Ab A>b");
    end.rank(1, 1, 0);
    CHECK.due("no rank settles at the end", end.action(1, end.goes(1, 0, 0), 5), -3);
    Used empty = Check.grammar("A>BaA A>b B> A>a");
    empty.rank(0, 1, 0);
    CHECK.due("an empty rule has no rank", empty.action(1, 0, 0), -3);
  }

  private static void promise24() {
    Used x = Check.grammar("A>aA A>bB B>c C>c");
    CHECK.due("goes(0, 0, 0)", x.goes(0, 0, 0), 3);
    CHECK.due("goes(3, 0, 0)", x.goes(3, 0, 0), 3);
    CHECK.due("goes(0, 0, 1)", x.goes(0, 0, 1), -1);
    CHECK.due("goes(0, 2, 1)", x.state(0, x.goes(0, 2, 1)), "A>bB.");
    CHECK.due("goes(0, 0, 2)", x.goes(0, 0, 2), -1);
    CHECK.fails("goes(0, 0, -1)", ARGUMENT, x, () -> x.goes(0, 0, -1));
    CHECK.fails("goes(0, 0, 5)", ARGUMENT, x, () -> x.goes(0, 0, 5));
    CHECK.fails("goes(0, 99, 5)", INDEX, x, () -> x.goes(0, 99, 5));
    CHECK.fails("goes(4, 0, 0)", INDEX, x, () -> x.goes(4, 0, 0));
    CHECK.fails("goes(-1, 0, 0)", INDEX, x, () -> x.goes(-1, 0, 0));
  }

  private static void promise25() {
    Used x = Check.grammar(APART);
    x.rank(0, 1, 0);
    int merged = x.action(1, x.action(1, 0, 0), 2);
    CHECK.due("kind 0", x.looks(0, merged, 4), 63);
    CHECK.due("kind 1", x.looks(1, merged, 4), 24);
    CHECK.due("kind 2", x.looks(2, merged, 4), 24);
    int apart = x.action(3, x.action(3, 0, 0), 2);
    CHECK.due("kind 3", x.looks(3, apart, 4), 8);
    CHECK.due("kind 3", x.looks(3, apart, 5), 16);
    CHECK.due("not complete", x.looks(0, 0, 4), 0);
    Used sums = Check.grammar("A>AcA A>e B>b");
    sums.rank(2, 1, 1);
    CHECK.due("before it is settled", sums.looks(1, 4, 0), 36);
    CHECK.due("a rule that is not useful", sums.looks(0, 0, 2), 0);
    CHECK.due("an empty rule in the closing", Check.grammar("A>Ba B>").looks(3, 0, 1), 1);
    CHECK.fails("looks of no rule", INDEX, sums, () -> sums.looks(0, 0, 3));
    CHECK.fails("looks(0, 0, -1)", INDEX, sums, () -> sums.looks(0, 0, -1));
    CHECK.fails("looks(0, 5, 0)", INDEX, sums, () -> sums.looks(0, 5, 0));
    CHECK.fails("looks(4, 0, 0)", INDEX, sums, () -> sums.looks(4, 0, 0));
  }

  private static void promise26() {
    Used x = Check.grammar(APART);
    CHECK.due("kind 0", x.clashes(0), 6);
    CHECK.due("kind 1", x.clashes(1), 2);
    CHECK.due("kind 2", x.clashes(2), 2);
    CHECK.due("kind 3", x.clashes(3), 0);
    // Merged looks are less than FOLLOW: the textbook's one with = and *.
    Used y = Check.grammar("A>BcC A>C B>dC B>a C>B");
    CHECK.due("by FOLLOW", y.clashes(1), 1);
    CHECK.due("merged", y.clashes(2), 0);
    CHECK.fails("clashes(-1)", ARGUMENT, x, () -> x.clashes(-1));
    CHECK.fails("clashes(4)", ARGUMENT, x, () -> x.clashes(4));
    Used sums = Check.grammar("A>AcA A>AdA A>e");
    CHECK.due("sums", sums.clashes(1), 4);
    sums.rank(2, 1, 2);
    CHECK.due("one rank", sums.clashes(1), 3);
    sums.rank(3, 1, 2);
    CHECK.due("both ranks", sums.clashes(1), 0);
  }

  private static void promise27() {
    Used x = Check.grammar("A>aA A>a A>Ab A>b");
    CHECK.due("clashes", x.clashes(0), 3);
    CHECK.due("the first is ahead of the second", x.clash(0, 0, 1) + " " + x.clash(0, 1, 1), "0 1");
    CHECK.due("the last", x.state(0, x.clash(0, 2, 0)), "A>aA. A>A.b");
    Used y = Check.grammar("A>a A>B B>a B>aa C>c");
    int state = y.action(0, 0, 0);
    CHECK.due("one sign has three actions", y.clash(0, 0, 2), 3);
    CHECK.due("its state", y.clash(0, 0, 0), state);
    CHECK.due("its sign", y.clash(0, 0, 1), 0);
    CHECK.due("its shift", y.state(0, y.clash(0, 0, 3)), "B>aa.");
    CHECK.due("its smallest rule", y.clash(0, 0, 4), 0);
    CHECK.due("the next sign", y.clash(0, 1, 1), 1);
    CHECK.due("two actions", y.clash(0, 1, 2), 2);
    CHECK.due("no shift", y.clash(0, 1, 3), -1);
    CHECK.due("the last is at the end", y.clash(0, 5, 1), 5);
    CHECK.due("all clashes", y.clashes(0), 6);
    CHECK.due("at the end alone", y.clashes(3), 1);
    CHECK.due("at the end alone", y.clash(3, 0, 1), 5);
    Used ring = Check.grammar("A>A A>a");
    CHECK.due("accept and reduce", ring.clash(1, 0, 2), 2);
    CHECK.due("accept and reduce: shift", ring.clash(1, 0, 3), -1);
    CHECK.due("accept and reduce: rule", ring.clash(1, 0, 4), 0);
    CHECK.fails("clash(0, 6, 0)", INDEX, y, () -> y.clash(0, 6, 0));
    CHECK.fails("clash(0, -1, 9)", INDEX, y, () -> y.clash(0, -1, 9));
    CHECK.fails("clash(0, 0, 5)", ARGUMENT, y, () -> y.clash(0, 0, 5));
    CHECK.fails("clash(0, 0, -1)", ARGUMENT, y, () -> y.clash(0, 0, -1));
    CHECK.fails("clash(4, 0, 0)", ARGUMENT, y, () -> y.clash(4, 0, 0));
    CHECK.fails("clash(-1, 99, 9)", ARGUMENT, y, () -> y.clash(-1, 99, 9));
  }

  private static void promise28() {
    Used x = Check.grammar("A>aA A>b");
    String[] due = {"", "a", "b", "b", "ab"};
    for (int state = 0; state < 5; state++) {
      CHECK.due("beginning(0, " + state + ")", x.beginning(0, state), due[state]);
      CHECK.due("beginning(3, " + state + ")", x.beginning(3, state), due[state]);
    }
    Used grows = Check.grammar("A>aA");
    CHECK.due("A does not grow", grows.beginning(1, 1), "none");
    CHECK.due("at the bottom", grows.beginning(1, 0), "");
    Used y = Check.grammar("A>BcC A>bb B>da B>ce C>e B>dB C>");
    CHECK.due("fewer signs, then as in a dictionary", y.beginning(0, y.goes(0, 0, 1)), "ce");
    int behind = y.action(0, y.goes(0, 0, 1), 2);
    CHECK.due("what is hollow adds nothing", y.beginning(0, y.goes(0, behind, 2)), "cec");
    Used ties = Check.grammar("A>aBb A>bBa A>BBc B>ac B>ab B>d");
    CHECK.due("ties go by letters", ties.beginning(0, ties.goes(0, ties.action(0, 0, 1), 1)), "bd");
    Used two = Check.grammar("A>bBc A>aCc B>ae C>e C>Bd");
    CHECK.due("two ways, one shorter", two.beginning(0, two.goes(0, two.action(0, 0, 0), 1)), "aae");
    Used large = Check.grammar("E>BBBB A>DaC A>DDDD C>EEEE B>BA B>AaB B>CCCC A>AEc B>AAAA D>dade");
    int longest = 0;
    for (int state = 0; state < large.states(0); state++) {
      longest = Math.max(longest, large.beginning(0, state).length());
    }
    CHECK.due("a long one", longest, 4101);
    CHECK.fails("beginning(0, 5)", INDEX, x, () -> x.beginning(0, 5));
    CHECK.fails("beginning(0, -1)", INDEX, x, () -> x.beginning(0, -1));
    CHECK.fails("beginning(4, 0)", INDEX, x, () -> x.beginning(4, 0));
    CHECK.fails("beginning(-1, 0)", INDEX, x, () -> x.beginning(-1, 0));
  }

  private static void promise29() {
    Used x = Check.grammar("A>aA A>b");
    CHECK.due("rows of kind 0", x.ofTable(0, 1), 4);
    CHECK.due("actions of kind 0", x.ofTable(0, 2), 17);
    CHECK.due("rows of kind 1", x.ofTable(1, 1), 4);
    CHECK.due("actions of kind 1", x.ofTable(1, 2), 7);
    CHECK.due("none is settled", x.ofTable(0, 0), 0);
    Used sums = Check.grammar("A>AcA A>e");
    CHECK.due("actions with a clash", sums.ofTable(1, 2), 7);
    CHECK.due("not settled", sums.ofTable(1, 0), 0);
    sums.rank(2, 3, 0);
    CHECK.due("settled", sums.ofTable(1, 0), 1);
    CHECK.due("actions without a clash", sums.ofTable(1, 2), 8);
    sums.rank(2, 3, 2);
    CHECK.due("settled as nothing", sums.ofTable(1, 0), 1);
    CHECK.due("actions without that one", sums.ofTable(1, 2), 7);
    CHECK.fails("ofTable(-1, 0)", ARGUMENT, x, () -> x.ofTable(-1, 0));
    CHECK.fails("ofTable(4, 0)", ARGUMENT, x, () -> x.ofTable(4, 0));
    CHECK.fails("ofTable(0, 3)", ARGUMENT, x, () -> x.ofTable(0, 3));
    CHECK.fails("ofTable(0, -1)", ARGUMENT, x, () -> x.ofTable(0, -1));
  }

  private static void notThere() {
    Used x = Check.grammar(FORTY_ONE);
    for (int kind = 2; kind < 4; kind++) {
      int k = kind;
      CHECK.fails("state", INDEX, x, () -> x.state(k, 0));
      CHECK.fails("action", INDEX, x, () -> x.action(k, 0, 9));
      CHECK.fails("goes", INDEX, x, () -> x.goes(k, 0, 0));
      CHECK.fails("looks", INDEX, x, () -> x.looks(k, 0, 0));
      CHECK.fails("clashes", STATE, x, () -> x.clashes(k));
      CHECK.fails("clash", STATE, x, () -> x.clash(k, 0, 9));
      CHECK.fails("beginning", INDEX, x, () -> x.beginning(k, 0));
      CHECK.fails("ofTable", STATE, x, () -> x.ofTable(k, 9));
      CHECK.fails("begin", STATE, x, () -> x.begin(k));
      CHECK.fails("read", STATE, x, () -> x.read(k));
    }
  }
}
