/** Section 4 of the document, "Changes": a test for each sentence that names a boundary case. */
public final class ChangeEdgesTest {
  private static final Class<?> STATE = IllegalStateException.class;
  private static final Check CHECK = new Check("ChangeEdgesTest");

  private interface Call {
    Object on(Used x);
  }

  public static void main(String[] args) {
    changes();
    thatBefore();
    changesAllTheSame();
    noChanges();
    eightCanBeUndone();
    theNinthForgets();
    undoneAndChanged();
    undoneAsAheadOfIt();
    undoneWhenFull();
    undoneSides();
    shelvesUndone();
    undoneAlone();
    nothingToUndo();
    undoIsNoChange();
    knocks();
    callsInAll();
    shelfAtFirst();
    shelfOfTen();
    dropped();
    needlessOnes();
    turned();
    turnedIntoFour();
    turnedFromNine();
    turnedVariables();
    turnedWhereOthersStood();
    unfit();
    CHECK.end();
  }

  private static Used small() {
    return Check.grammar("A>Aa A>b B>c");
  }

  /** "A CHANGE is what rule(), drop(), act(), rank(), needless(), turn() and shelve() do" */
  private static void changes() {
    Call[] calls = {x -> Check.add(x, "A>"), x -> x.drop(0), x -> x.act(2, 3), x -> x.rank(4, 9, 2),
        x -> x.needless(), x -> x.turn(0), x -> x.shelve()};
    int[] due = {3, 2, 0, 0, 1, 2, 3};
    for (int i = 0; i < calls.length; i++) {
      Used x = small();
      String before = Check.shown(x);
      CHECK.due("call " + i, calls[i].on(x), due[i]);
      int again = x.undo();
      CHECK.due("call " + i + " once more", again + " " + calls[i].on(x), "3 " + due[i]);
      CHECK.due("call " + i + " is a change", x.house(3), 4);
      CHECK.due("call " + i + " changes something", Check.shown(x).equals(before), false);
      CHECK.due("call " + i + " is undone", x.undo(), 3);
      CHECK.due("call " + i + " is as it was", Check.shown(x), before);
    }
  }

  /** "Returns that before.", "Returns the RANK before." */
  private static void thatBefore() {
    Used x = small();
    int[] acts = {3, 2, 1, 0, 3, 3};
    int[] ranks = {9, 1, 8, 0, 5, 5};
    for (int i = 0; i < acts.length; i++) {
      CHECK.due("act", x.act(1, acts[i]), i == 0 ? 0 : acts[i - 1]);
      CHECK.due("rank", x.rank(3, ranks[i], i % 3), i == 0 ? 0 : ranks[i - 1]);
    }
    CHECK.due("of another rule", x.act(0, 1), 0);
    CHECK.due("of another sign", x.rank(2, 1, 1), 0);
  }

  /** "act(), rank() and shelve() also if all is as before" */
  private static void changesAllTheSame() {
    Call[] calls = {x -> x.act(0, 0), x -> x.rank(0, 0, 0), x -> x.shelve(), x -> x.act(0, 0)};
    Used x = small();
    x.shelve();
    for (int i = 0; i < calls.length; i++) {
      calls[i].on(x);
      CHECK.due("call " + i + " is a change", x.house(3), 5 + i);
    }
    calls[1].on(x);
    CHECK.due("a ninth is none more", x.house(3), 8);
    CHECK.due("undone", x.undo(), 7);
    CHECK.due("rules", Check.rules(x), "A>Aa A>b B>c");
  }

  /** "needless() only if a RULE went, turn() not if it is UNFIT" */
  private static void noChanges() {
    Call[] calls = {x -> x.needless(), x -> x.turn(1), x -> x.turn(4), x -> x.say(0, 1, 2, -1, -1, -1),
        x -> x.alter(0, 0), x -> x.knock(), x -> x.begin(1), x -> x.step(), x -> x.read(1),
        x -> x.digest(), x -> x.isSound()};
    Used x = small();
    x.drop(2);
    for (int i = 0; i < calls.length; i++) {
      calls[i].on(x);
      CHECK.due("call " + i + " is no change", x.house(3), 4);
    }
    x.undo();
    CHECK.due("the last change was the one ahead of them", Check.rules(x), "A>Aa A>b B>c");
  }

  /** "The last 8 CHANGES can be undone, the last one first" */
  private static void eightCanBeUndone() {
    Used x = new Used();
    for (int i = 0; i < 8; i++) {
      CHECK.due("how many", x.house(3), i);
      x.rule(0, 1, i, 0, 0, 0);
    }
    CHECK.due("eight", x.house(3), 8);
    for (int i = 7; i >= 0; i--) {
      CHECK.due("the rule is there", x.text(i).length(), 3);
      CHECK.due("undo", x.undo(), i);
      CHECK.due("rules", x.house(0), i);
    }
    CHECK.fails("a ninth", STATE, x, x::undo);
    CHECK.due("all are undone", Check.shown(x), Check.shown(new Used()));
  }

  /** "(with a 9th the oldest is forgotten)" */
  private static void theNinthForgets() {
    for (int many = 9; many <= 30; many++) {
      Used x = Check.grammar("A>a");
      for (int i = 1; i < many; i++) {
        x.rank(0, i % 10, 0);
      }
      CHECK.due("eight of " + many, x.house(3), 8);
      for (int i = 1; i <= 8; i++) {
        CHECK.due("undo", x.undo(), 8 - i);
        CHECK.due("rank " + i + " ahead of " + many, x.ofRule(0, 3), (many - 1 - i) % 10);
      }
      CHECK.fails("a ninth of " + many, STATE, x, x::undo);
    }
  }

  private static void undoneAndChanged() {
    Used x = Check.grammar("A>a");
    for (int i = 1; i <= 9; i++) {
      x.rank(0, i, 0);
    }
    for (int i = 0; i < 5; i++) {
      x.undo();
    }
    CHECK.due("after five", x.ofRule(0, 3), 4);
    for (int i = 0; i < 6; i++) {
      x.rank(0, i == 0 ? 0 : 9 - i, 0);
    }
    CHECK.due("eight again", x.house(3), 8);
    int[] due = {5, 6, 7, 8, 0, 4, 3, 2};
    for (int i = 0; i < 8; i++) {
      CHECK.due("undo", x.undo(), 7 - i);
      CHECK.due("rank after " + i, x.ofRule(0, 3), due[i]);
    }
    CHECK.fails("a ninth", STATE, x, x::undo);
  }

  /** "RULES with ACTS, RANKS, SIDES and the SHELF are then as they were ahead of it" */
  private static void undoneAsAheadOfIt() {
    Used x = Check.grammar("A>AcA A>e B>");
    x.act(0, 3);
    x.rank(2, 7, 1);
    x.shelve();
    String before = Check.shown(x);
    int shift = x.action(0, 4, 2);
    Call[] calls = {y -> y.drop(0), y -> y.needless(), y -> y.turn(0), y -> y.rank(2, 7, 2), y -> y.act(0, 1),
        y -> y.rank(2, 0, 1)};
    for (int i = 0; i < calls.length; i++) {
      calls[i].on(x);
      x.undo();
      CHECK.due("after call " + i, Check.shown(x) + x.action(0, 4, 2), before + shift);
    }
    x.drop(2);
    x.shelve();
    x.undo();
    CHECK.due("the shelf", x.house(4) + " " + x.house(0), "3 2");
    x.undo();
    CHECK.due("and the rule", Check.shown(x), before);
  }

  /** The tenth RULE, and the last SIGN, as they were: another one stood there meanwhile. */
  private static void undoneWhenFull() {
    String ten = "A>a A>b A>c A>d A>e B>a B>b B>c B>d E>abcd";
    Used x = Check.grammar(ten);
    x.act(9, 3);
    x.rank(4, 9, 1);
    String before = Check.rules(x) + all(x);
    x.shelve();
    x.drop(9);
    Check.add(x, "D>dcba");
    x.act(9, 1);
    x.rank(4, 8, 2);
    x.shelve();
    for (int i = 0; i < 6; i++) {
      x.undo();
    }
    CHECK.due("as before", Check.rules(x) + all(x), before);
    CHECK.due("the tenth", x.text(9) + x.ofRule(9, 2), "E>abcd3");
    CHECK.due("the last sign", x.rank(4, 0, 0), 9);
  }

  /** RANK and SIDE of each SIGN, told apart by what is SETTLED: reduce, shift or none. */
  private static void undoneSides() {
    for (int sign = 0; sign < 5; sign++) {
      char letter = (char) ('a' + sign);
      Used x = Check.grammar("A>A" + letter + "A A>" + (sign == 0 ? "b" : "a"));
      int shift = x.action(1, x.goes(1, 0, 0), sign);
      int behind = x.goes(1, shift, 0);
      int[] due = {-10, shift, -1};
      for (int side = 0; side < 3; side++) {
        x.rank(sign, 5, side);
        CHECK.due("side " + side, x.action(1, behind, sign), due[side]);
        for (int other = 0; other < 3; other++) {
          x.rank(sign, 6 + other, other);
          CHECK.due("side " + other, x.action(1, behind, sign), due[other]);
          x.undo();
          CHECK.due("side of " + letter + " is back", x.action(1, behind, sign), due[side]);
          CHECK.due("rank of " + letter + " is back", x.ofRule(0, 3), 5);
        }
        x.undo();
        CHECK.due("no rank, a clash", x.action(1, behind, sign), -3);
      }
    }
  }

  private static String all(Used x) {
    StringBuilder row = new StringBuilder();
    for (int rule = 0; rule < x.house(0); rule++) {
      for (int what = 0; what < 5; what++) {
        row.append(' ').append(x.ofRule(rule, what));
      }
    }
    return row.toString();
  }

  /** What a SHELF of ten had, and what it has when that is undone. */
  private static void shelvesUndone() {
    Used x = Check.grammar("B>a B>b B>c B>d B>e C>a C>b C>c C>d A>e");
    x.shelve();
    x.drop(9);
    Check.add(x, "A>d");
    CHECK.due("two that differ", x.differ(1), "d");
    x.shelve();
    CHECK.due("two that are the same", x.differ(1), "none");
    x.undo();
    CHECK.due("the first shelf", x.differ(1), "d");
    x.undo();
    x.undo();
    CHECK.due("the first grammar", x.differ(1), "none");
    CHECK.due("its tenth", x.text(9), "A>e");
  }

  /** What is typed, who knocked, and what is SHARED is not undone. */
  private static void undoneAlone() {
    Used x = Check.grammar("A>a");
    Check.type(x, "a");
    x.read(1);
    x.read(1);
    x.knock();
    x.undo();
    CHECK.due("typed, knocked, shared", x.typed() + x.house(8) + x.shared(), "a13");
    CHECK.due("rules", x.house(0), 0);
  }

  /** "IllegalStateException if there is none" */
  private static void nothingToUndo() {
    Used x = new Used();
    CHECK.fails("at first", STATE, x, x::undo);
    x.needless();
    x.turn(0);
    x.knock();
    CHECK.fails("after what is no change", STATE, x, x::undo);
    x.shelve();
    CHECK.due("after one", x.undo(), 0);
    CHECK.fails("after that", STATE, x, x::undo);
  }

  /** "Undoing is no CHANGE." */
  private static void undoIsNoChange() {
    Used x = small();
    CHECK.due("undo", x.undo(), 2);
    CHECK.due("undo", x.undo(), 1);
    CHECK.due("each takes one back", Check.rules(x), "A>Aa");
    Check.add(x, "A>c");
    CHECK.due("and a new one is the last", x.undo() + Check.rules(x), "1A>Aa");
  }

  /** "The KEEPER of the tables counts who KNOCKED." */
  private static void knocks() {
    Used x = new Used();
    CHECK.due("none at first", x.house(8), 0);
    for (int i = 1; i <= 300; i++) {
      CHECK.due("knock", x.knock(), i);
    }
    CHECK.due("all", x.house(8), 300);
    CHECK.due("others have none", new Used().house(8), 0);
  }

  /** "An object is used for at most 512 calls after it has been made": the 512th is answered, too. */
  private static void callsInAll() {
    Tablemaker knocked = new Tablemaker();
    for (int i = 1; i <= 512; i++) {
      CHECK.due("knock " + i, knocked.knock(), i);
    }
    Tablemaker changed = new Tablemaker();
    for (int i = 0; i < 504; i++) {
      CHECK.due("rank " + i, changed.rank(1, i % 10, 0), i == 0 ? 0 : (i - 1) % 10);
    }
    for (int i = 7; i >= 0; i--) {
      CHECK.due("undo", changed.undo(), i);
    }
    Tablemaker read = new Tablemaker();
    read.rule(0, 0, 0, 0, 0, 0);
    for (int i = 1; i < 512; i++) {
      CHECK.due("read " + i, i % 2 == 0 ? read.shelve() : read.read(i % 4), i % 2 == 0 ? 1 : 2);
    }
    Tablemaker digested = new Tablemaker();
    long first = digested.digest();
    for (int i = 1; i < 512; i++) {
      CHECK.due("digest " + i, digested.digest(), first);
    }
  }

  /** "The SHELF has a grammar (without RULES at first)." */
  private static void shelfAtFirst() {
    Used x = new Used();
    CHECK.due("no rules", x.house(4), 0);
    CHECK.due("the same sentences: none", x.differ(3), "none");
    CHECK.due("shelve of nothing", x.shelve(), 0);
    CHECK.due("is a change", x.house(3), 1);
    Check.add(x, "A>");
    CHECK.due("one here alone", x.differ(0), "");
    CHECK.due("shelve", x.shelve(), 1);
    CHECK.due("none", x.differ(3), "none");
    x.drop(0);
    CHECK.due("one there alone", x.differ(0), "");
  }

  private static void shelfOfTen() {
    Used x = Check.full();
    CHECK.due("ten", x.house(4), 10);
    CHECK.due("none", x.differ(3), "none");
    for (int i = 0; i < 10; i++) {
      x.drop(0);
    }
    CHECK.due("they stay", x.house(4) + " " + x.house(0), "10 0");
    CHECK.due("its first sentence", x.differ(3), "e");
    CHECK.due("shelve of none", x.shelve(), 0);
    CHECK.due("none is there", x.house(4), 0);
  }

  /** "those behind it have numbers that are 1 less" */
  private static void dropped() {
    String[] left = {"A>b A>c A>dd", "A>a A>c A>dd", "A>a A>b A>dd", "A>a A>b A>c"};
    for (int rule = 0; rule < 4; rule++) {
      Used x = Check.grammar("A>a A>b A>c A>dd");
      x.act(3, 3);
      CHECK.due("drop(" + rule + ")", x.drop(rule), 3);
      CHECK.due("left", Check.rules(x), left[rule]);
      CHECK.due("act of the last one", x.ofRule(2, 2), rule < 3 ? 3 : 0);
    }
  }

  /** "Returns how many these were (0 is no CHANGE)." */
  private static void needlessOnes() {
    Used x = new Used();
    CHECK.due("of none", x.needless() + " " + x.house(3), "0 0");
    Used all = Check.grammar("A>A A>B A>C A>D A>E B>A B>B B>C B>D B>E");
    CHECK.due("all of ten", all.needless() + " " + all.house(0) + " " + all.house(3), "10 0 8");
    all.undo();
    CHECK.due("are back", all.house(0), 10);
    Used first = Check.grammar("B>b A>a");
    first.act(1, 2);
    CHECK.due("the first", first.needless() + Check.rules(first) + first.ofRule(0, 2), "1A>a2");
    Used last = Check.grammar("A>a B>b");
    CHECK.due("the last", last.needless() + Check.rules(last), "1A>a");
  }

  /** "with the smallest VARIABLE W but A that stands in no RULE, neither LEFT nor RIGHT" */
  private static void turned() {
    turnedBy("A>Aa A>b", 0, 1, "B>aB A>bB B>");
    turnedBy("A>Aa A>b B>c", 0, 2, "C>aC A>bC B>c C>");
    turnedBy("B>c A>Aa A>b", 0, 2, "B>c C>aC A>bC C>");
    turnedBy("B>AAAC A>Aa A>b", 0, 3, "B>AAAC D>aD A>bD D>");
    for (int dropped = 0; dropped < 3; dropped++) {
      Used x = Check.grammar("A>Aa A>b");
      x.rule(dropped == 0 ? 1 : 2, 4, 0, 0, 0, dropped == 1 ? 6 : 0);
      x.drop(2);
      CHECK.due("what was the last is used no more", x.turn(0), 1);
    }
    turnedBy("A>Aa A>b A>cccB", 0, -4, "A>Aa A>b A>cccB");
    turnedBy("A>Aa A>b A>AccB", 0, 2, "C>aC A>bC C>ccBC C>");
    turnedBy("A>Aa A>b E>DCB", 0, -4, "A>Aa A>b E>DCB");
    turnedBy("A>Aa A>b D>BC", 0, 4, "E>aE A>bE D>BC E>");
    turnedBy("A>Aa A>b E>BC", 0, 3, "D>aD A>bD E>BC D>");
    turnedBy("E>Ea E>", 4, 1, "B>aB E>B B>");
    turnedBy("B>Ba B>b", 1, 2, "C>aC B>bC C>");
    turnedBy("E>EE E>b D>a", 4, 1, "B>EB E>bB D>a B>");
  }

  private static void turnedBy(String rules, int variable, int due, String after) {
    Used x = Check.grammar(rules);
    int before = x.house(3);
    CHECK.due("turn by " + rules, x.turn(variable), due);
    CHECK.due("rules of " + rules, Check.rules(x), after);
    CHECK.due("a change, or none", x.house(3), due < 0 ? before : before + 1);
  }

  /** "or a RIGHT would have more than 4 SYMBOLS": one that begins with V is no longer than before */
  private static void turnedIntoFour() {
    turnedBy("A>Aabc A>abc", 0, 1, "B>abcB A>abcB B>");
    turnedBy("A>Aa A>abcd", 0, -4, "A>Aa A>abcd");
    turnedBy("A>Aa A>a A>abcA", 0, -4, "A>Aa A>a A>abcA");
    turnedBy("A>Aa A>a B>abcd", 0, 2, "C>aC A>aC B>abcd C>");
    turnedBy("A>AAAA A>", 0, 1, "B>AAAB A>B B>");
  }

  /** "or there are 10 RULES" */
  private static void turnedFromNine() {
    String nine = "A>Aa A>b A>c A>d A>e A>a A>aa A>bb A>cc";
    Used x = Check.grammar(nine);
    for (int rule = 0; rule < 9; rule++) {
      x.act(rule, rule % 4);
    }
    CHECK.due("nine", x.turn(0), 1);
    CHECK.due("are ten then", Check.rules(x), "B>aB A>bB A>cB A>dB A>eB A>aB A>aaB A>bbB A>ccB B>");
    for (int rule = 0; rule < 9; rule++) {
      CHECK.due("with the same act", x.ofRule(rule, 2), rule % 4);
    }
    CHECK.due("the last with 0", x.ofRule(9, 2), 0);
    CHECK.due("ten", Check.grammar(nine + " A>dd").turn(0), -4);
    CHECK.due("ten, then nine", tenThenNine(nine).turn(0), 1);
  }

  private static Used tenThenNine(String nine) {
    Used x = Check.grammar(nine + " A>dd");
    x.act(9, 3);
    x.drop(9);
    return x;
  }

  /** "(By all RULES, USEFUL or not.)" */
  private static void turnedVariables() {
    turnedBy("A>b D>Dd D>e", 3, 1, "A>b B>dB D>eB B>");
    turnedBy("A>b D>Dd D>D", 3, -4, "A>b D>Dd D>D");
    turnedBy("A>b D>Dd D>E", 3, 1, "A>b B>dB D>EB B>");
    turnedBy("A>b D>Dd D>E B>C", 3, -4, "A>b D>Dd D>E B>C");
  }

  /** What a rule had that stood at the same place before does not count. */
  private static void turnedWhereOthersStood() {
    turnedAfter("A>b A>Aa", "A>", -4, "A>b A>");
    turnedAfter("A>Aa A>A", "A>b", 1, "B>aB A>bB B>");
    turnedAfter("A>Aa A>bB", "A>b", 1, "B>aB A>bB B>");
    turnedAfter("A>Aa A>bbB", "A>bb", 1, "B>aB A>bbB B>");
    turnedAfter("A>Aa A>bbbB", "A>b", 1, "B>aB A>bB B>");
    turnedAfter("A>Aa A>B", "A>", 1, "B>aB A>B B>");
    Used x = Check.grammar("A>Aa A>b");
    x.turn(0);
    x.undo();
    CHECK.due("turned, undone and turned", x.turn(0) + Check.rules(x), "1B>aB A>bB B>");
  }

  /** Another rule takes the place of the last one. */
  private static void turnedAfter(String rules, String last, int due, String after) {
    Used x = Check.grammar(rules);
    x.drop(x.house(0) - 1);
    Check.add(x, last);
    CHECK.due("turn by " + rules + ", then " + last, x.turn(0), due);
    CHECK.due("rules of " + rules + ", then " + last, Check.rules(x), after);
  }

  /** "UNFIT, if no RULE of V begins with V, or all do, or one is just V, or .." */
  private static void unfit() {
    turnedBy("", 0, -4, "");
    turnedBy("A>a", 0, -4, "A>a");
    turnedBy("A>", 0, -4, "A>");
    turnedBy("A>aA A>Ba", 0, -4, "A>aA A>Ba");
    turnedBy("A>Aa", 0, -4, "A>Aa");
    turnedBy("A>Aa A>Ab A>Ac", 0, -4, "A>Aa A>Ab A>Ac");
    turnedBy("A>A A>Aa A>b", 0, -4, "A>A A>Aa A>b");
    turnedBy("A>b A>Aa A>A", 0, -4, "A>b A>Aa A>A");
    turnedBy("A>Aa A>b B>Bb", 1, -4, "A>Aa A>b B>Bb");
    turnedBy("A>Aa A>b B>B", 0, 2, "C>aC A>bC B>B C>");
    turnedBy("A>AA A>", 0, 1, "B>AB A>B B>");
  }
}
