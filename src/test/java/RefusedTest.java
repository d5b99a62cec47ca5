import java.util.ArrayList;
import java.util.List;

/**
 * "A method that throws an exception changes nothing. If several exceptions apply, the one that is
 * named first is thrown." And what comes to nothing, and what only asks, changes nothing.
 */
public final class RefusedTest {
  private static final Class<?> ARGUMENT = IllegalArgumentException.class;
  private static final Class<?> STATE = IllegalStateException.class;
  private static final Class<?> INDEX = IndexOutOfBoundsException.class;
  private static final Check CHECK = new Check("RefusedTest");
  // As many states with looks as just too many, and no clash without.
  private static final String FORTY_ONE = "A>AcB A>C B>BdC B>C C>aCb C>bE E>aE E>a C>caaa";

  private interface Maker {
    Used make();
  }

  private interface Call {
    Object on(Used x);
  }

  public static void main(String[] args) {
    ruleAhead();
    textAhead();
    grammarAhead();
    tablesAhead();
    statesAhead();
    Maker[] makers = {Check::full, RefusedTest::midway, Used::new, () -> Check.grammar(FORTY_ONE)};
    for (Maker maker : makers) {
      refusedChangesNothing(maker);
      nothingChangesNothing(maker);
      askingChangesNothing(maker);
    }
    CHECK.end();
  }

  private static Used midway() {
    Used x = Check.type(Check.grammar("A>aA A>Bb B>"), "aab");
    x.rank(1, 4, 2);
    x.act(1, 3);
    x.shelve();
    x.read(1);
    x.begin(3);
    x.step();
    return x;
  }

  // ---- the one that is named first

  private static void ruleAhead() {
    Used full = Check.full();
    CHECK.fails("left, and ten rules", ARGUMENT, full, () -> full.rule(5, 0, 0, 0, 0, 0));
    CHECK.fails("many, and ten rules", ARGUMENT, full, () -> full.rule(0, 5, 0, 0, 0, 0));
    CHECK.fails("a symbol, and ten rules", ARGUMENT, full, () -> full.rule(0, 4, 0, 0, 0, 10));
    Used two = Check.grammar("A> A>ab");
    CHECK.fails("left, else the same", ARGUMENT, two, () -> two.rule(-1, 0, 0, 0, 0, 0));
    CHECK.fails("many, else the same", ARGUMENT, two, () -> two.rule(0, -1, 0, 0, 0, 0));
    CHECK.fails("a symbol, else the same", ARGUMENT, two, () -> two.rule(0, 2, 0, -1, 0, 0));
  }

  private static void textAhead() {
    Used full = Check.full();
    for (int place = 1; place < 6; place++) {
      int[] w = {0, -1, -1, -1, -1, -1};
      w[place] = place % 2 == 0 ? 7 : -2;
      CHECK.fails("too many, then wrong", ARGUMENT, full, () -> full.say(w[0], w[1], w[2], w[3], w[4], w[5]));
    }
    CHECK.fails("place and sign", INDEX, full, () -> full.alter(10, 5));
    CHECK.fails("place and sign", INDEX, full, () -> full.alter(-1, -1));
    Used none = new Used();
    CHECK.fails("no place, and sign", INDEX, none, () -> none.alter(0, 5));
  }

  private static void grammarAhead() {
    Used x = midway();
    CHECK.fails("rule and act", INDEX, x, () -> x.act(3, 4));
    CHECK.fails("rule and act", INDEX, x, () -> x.act(-1, -1));
    CHECK.fails("rule and what", INDEX, x, () -> x.ofRule(3, 5));
    CHECK.fails("rule and what", INDEX, x, () -> x.ofRule(-1, -1));
    Used none = new Used();
    CHECK.fails("no rule, and act", INDEX, none, () -> none.act(0, 4));
    CHECK.fails("no rule, and what", INDEX, none, () -> none.ofRule(0, 5));
  }

  private static void tablesAhead() {
    Used more = Check.grammar(FORTY_ONE);
    Used clashing = Check.grammar("A>a A>B B>a");
    for (int kind = 2; kind < 4; kind++) {
      int k = kind;
      CHECK.fails("no table, no clash, and what", STATE, more, () -> more.clash(k, -1, 5));
      CHECK.fails("no table, and no clash", STATE, more, () -> more.clash(k, 0, 0));
      CHECK.fails("no table, and what", STATE, more, () -> more.clash(k, 0, 5));
      CHECK.fails("no table, and what", STATE, more, () -> more.ofTable(k, 3));
    }
    for (int kind : new int[] {-1, 4}) {
      CHECK.fails("kind, no clash, and what", ARGUMENT, clashing, () -> clashing.clash(kind, -1, 5));
      CHECK.fails("kind, and no clash", ARGUMENT, clashing, () -> clashing.clash(kind, 99, 0));
      CHECK.fails("kind, where all clash", ARGUMENT, clashing, () -> clashing.begin(kind));
      CHECK.fails("kind, where all clash", ARGUMENT, clashing, () -> clashing.read(kind));
    }
    for (int kind = 0; kind < 4; kind++) {
      int k = kind;
      int many = clashing.clashes(k);
      CHECK.fails("no clash, and what", INDEX, clashing, () -> clashing.clash(k, many, 5));
      CHECK.fails("no clash, and what", INDEX, clashing, () -> clashing.clash(k, -1, -1));
    }
  }

  private static void statesAhead() {
    Used x = midway();
    Used more = Check.grammar(FORTY_ONE);
    for (int kind = 0; kind < 4; kind++) {
      int k = kind;
      int many = x.states(k);
      CHECK.fails("state and sign", INDEX, x, () -> x.action(k, many, 6));
      CHECK.fails("state and sign", INDEX, x, () -> x.action(k, -1, -1));
      CHECK.fails("state and variable", INDEX, x, () -> x.goes(k, many, 5));
      CHECK.fails("state and variable", INDEX, x, () -> x.goes(k, -1, -1));
      CHECK.fails("state and rule", INDEX, x, () -> x.looks(k, many, 3));
    }
    CHECK.fails("kind and sign", INDEX, x, () -> x.action(4, 0, 6));
    CHECK.fails("kind and sign", INDEX, x, () -> x.action(-1, 0, -1));
    CHECK.fails("kind and variable", INDEX, x, () -> x.goes(4, 0, 5));
    CHECK.fails("kind and variable", INDEX, x, () -> x.goes(-1, 0, -1));
    CHECK.fails("no table, and sign", INDEX, more, () -> more.action(2, 0, 6));
    CHECK.fails("no table, and variable", INDEX, more, () -> more.goes(3, 0, 5));
  }

  // ---- nothing is changed

  /** All that can be seen now, and after each undo. */
  private static List<String> past(Used x) {
    List<String> all = new ArrayList<>();
    all.add(Check.shown(x));
    while (x.house(3) > 0) {
      all.add(x.undo() + " " + Check.shown(x));
    }
    x.read(1);
    all.add(Check.shown(x));
    return all;
  }

  private static void call(Used x, Call body, boolean mayThrow) {
    try {
      body.on(x);
    } catch (IllegalArgumentException | IllegalStateException | IndexOutOfBoundsException e) {
      CHECK.due("throws " + e, mayThrow, true);
      return;
    }
    CHECK.due("throws nothing", mayThrow, false);
  }

  private static void same(String what, Maker maker, Call[] calls, boolean mayThrow) {
    Used x = maker.make();
    Used other = maker.make();
    for (Call one : calls) {
      call(x, one, mayThrow);
    }
    CHECK.due(what + " changes nothing", past(x), past(other));
  }

  private static void refusedChangesNothing(Maker maker) {
    Call[] calls = {x -> x.rule(5, 0, 0, 0, 0, 0), x -> x.rule(0, 4, 0, 0, 0, 10), x -> x.drop(10),
        x -> x.drop(-1), x -> x.act(10, 0), x -> x.act(0, 4), x -> x.act(0, -1), x -> x.rank(5, 1, 1),
        x -> x.rank(0, 10, 1), x -> x.rank(0, 5, 3), x -> x.turn(5), x -> x.turn(-1),
        x -> x.say(0, 5, 6, 1, 2, 7), x -> x.say(5, 0, 0, 0, 0, -2), x -> x.alter(10, 0), x -> x.alter(0, 5),
        x -> x.alter(-1, 0), x -> x.begin(4), x -> x.begin(-1), x -> x.read(4), x -> x.read(-1),
        x -> x.clash(1, -1, 0), x -> x.state(1, -1), x -> x.house(9), x -> x.stepAt(-1)};
    same("what is refused", maker, calls, true);
    Used x = maker.make();
    if (x.house(2) == 10) {
      same("too many signs", maker, new Call[] {y -> y.say(0, 5, -1, -1, -1, -1)}, true);
    }
    if (x.house(0) == 10) {
      same("too many rules", maker, new Call[] {y -> y.rule(4, 0, 0, 0, 0, 0)}, true);
    }
    if (x.clashes(0) > 0) {
      same("a table that clashes", maker, new Call[] {y -> y.begin(0), y -> y.read(0)}, true);
    }
    if (x.states(3) < 0) {
      same("no table", maker, new Call[] {y -> y.begin(2), y -> y.read(3)}, true);
    }
    if (x.house(0) > 0) {
      same("the same rule again", maker, new Call[] {RefusedTest::first}, true);
    }
  }

  private static Object first(Used x) {
    String rule = x.text(0);
    return Check.add(x, rule);
  }

  /** No grammar here has a rule that is not useful, or one that begins with its own C. */
  private static void nothingChangesNothing(Maker maker) {
    Call[] calls = {x -> x.needless(), x -> x.turn(2), x -> x.say(-1, -1, -1, -1, -1, -1)};
    Used x = maker.make();
    CHECK.due("needless", x.needless(), 0);
    CHECK.due("turn", x.turn(2), -4);
    CHECK.due("say", x.say(-1, -1, -1, -1, -1, -1), x.house(2));
    same("what comes to nothing", maker, calls, false);
  }

  private static void askingChangesNothing(Maker maker) {
    Call[] calls = {x -> x.ofVariable(0, 4), x -> x.shortest(0), x -> x.hasRing(), x -> x.states(3),
        x -> x.state(0, 1), x -> x.action(0, 1, 5), x -> x.goes(1, 0, 0), x -> x.clashes(0),
        x -> x.beginning(1, 1), x -> x.ofTable(1, 1), x -> x.pile(), x -> x.stepAt(0), x -> x.tree(),
        x -> x.value(), x -> x.derivation(), x -> x.shared(), x -> x.typed(), x -> x.nexts(0),
        x -> x.mend(), x -> x.trees(), x -> x.sentences(3), x -> x.sentence(9), x -> x.twin(3),
        x -> x.differ(3), x -> x.house(8), x -> x.isSound(), x -> x.digest()};
    same("what asks", maker, calls, false);
    Used x = maker.make();
    if (x.house(0) > 0) {
      Call[] ofRules = {y -> y.text(0), y -> y.ofRule(0, 3), y -> y.looks(0, 0, 0)};
      same("what asks of rules", maker, ofRules, false);
    }
    if (x.clashes(0) > 0) {
      same("what asks of clashes", maker, new Call[] {y -> y.clash(0, 0, 2)}, false);
    }
  }
}
