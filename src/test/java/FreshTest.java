/** Whatever was asked before, and changed or undone since: what is asked is answered as things are now. */
public final class FreshTest {
  private static final Check CHECK = new Check("FreshTest");

  private interface Call {
    Object on(Used x);
  }

  private static final Call[] ASKED = {x -> x.text(1), x -> x.ofRule(1, 3), x -> x.ofRule(1, 4),
    x -> x.ofVariable(1, 0), x -> x.ofVariable(1, 1), x -> x.ofVariable(0, 2), x -> x.ofVariable(0, 3),
    x -> x.ofVariable(1, 4), x -> x.ofVariable(1, 5), x -> x.shortest(0), x -> x.hasRing(),
    x -> x.states(0), x -> x.states(3), x -> x.state(0, 1), x -> x.state(3, 1), x -> x.action(0, 1, 0),
    x -> x.action(1, 1, 1), x -> x.action(2, 1, 1), x -> x.action(3, 1, 1), x -> x.goes(0, 0, 1),
    x -> x.goes(3, 0, 1), x -> x.looks(1, 1, 1), x -> x.looks(2, 1, 1), x -> x.looks(3, 1, 1),
    x -> x.clashes(0), x -> x.clashes(3), x -> x.beginning(0, 1), x -> x.beginning(3, 1),
    x -> x.ofTable(0, 0), x -> x.ofTable(1, 1), x -> x.ofTable(3, 2), x -> x.typed(), x -> x.nexts(0),
    x -> x.nexts(1), x -> x.mend(), x -> x.trees(), x -> x.sentences(1), x -> x.sentence(0),
    x -> x.twin(3), x -> x.differ(3), x -> x.house(1), x -> x.isSound(), x -> x.digest()};

  // Each is done, undone, and another one done after it.
  private static final Call[] CHANGING = {x -> Check.add(x, "A>bb"), x -> Check.add(x, "B>"), x -> x.drop(0),
    x -> x.drop(2), x -> x.rank(0, 1, 0), x -> x.rank(0, 1, 2), x -> x.act(1, 2), x -> x.shelve(),
    x -> Check.add(x, "B>A"), x -> Check.add(x, "A>A"), x -> Check.add(x, "C>aC")};

  private static final String[] GRAMMARS = {"A>Aa A>b B>c A>B", "A>AaA A>a B>b C>Cc", "A>a B>b C>c D>DD"};

  public static void main(String[] args) {
    for (String rules : GRAMMARS) {
      for (int first = 0; first < CHANGING.length; first++) {
        for (int second = 0; second < CHANGING.length; second++) {
          for (int asked = 0; asked < ASKED.length; asked++) {
            asked(rules, asked, first, second);
          }
          needlessAndTurn(rules, first, second);
        }
      }
    }
    CHECK.end();
  }

  private static Used made(String rules) {
    return Check.type(Check.grammar(rules), "ab");
  }

  private static String answer(Call call, Used x) {
    try {
      return "" + call.on(x);
    } catch (IllegalStateException | IllegalArgumentException | IndexOutOfBoundsException e) {
      return e.getClass().getName();
    }
  }

  private static String after(String rules, int change, Call call) {
    Used x = made(rules);
    CHANGING[change].on(x);
    return answer(call, x);
  }

  /** One object is asked ahead of each change and after it, the other one only at the end. */
  private static void asked(String rules, int asked, int first, int second) {
    Call call = ASKED[asked];
    String what = "call " + asked + " by " + rules + " after ";
    Used x = made(rules);
    String before = answer(call, x);
    CHANGING[first].on(x);
    CHECK.due(what + first, answer(call, x), after(rules, first, call));
    x.undo();
    CHECK.due(what + first + " and undo", answer(call, x), before);
    CHANGING[second].on(x);
    CHECK.due(what + first + ", undo and " + second, answer(call, x), after(rules, second, call));
  }

  /** These two change something themselves: what that is depends on how things are now. */
  private static void needlessAndTurn(String rules, int first, int second) {
    Call[] calls = {x -> x.needless() + Check.rules(x), x -> x.turn(0) + Check.rules(x)};
    for (Call call : calls) {
      Used x = made(rules);
      x.digest();
      CHANGING[first].on(x);
      x.digest();
      x.undo();
      CHANGING[second].on(x);
      CHECK.due("changed by " + rules, answer(call, x), after(rules, second, call));
    }
  }
}
