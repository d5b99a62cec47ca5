/**
 * Each argument of each call: the smallest and the greatest that is allowed, and the next ones beyond
 * on either side, on an object where all is full and on one where all is empty.
 */
public final class ArgumentsTest {
  private static final Class<?> ARGUMENT = IllegalArgumentException.class;
  private static final Class<?> STATE = IllegalStateException.class;
  private static final Class<?> INDEX = IndexOutOfBoundsException.class;
  private static final Check CHECK = new Check("ArgumentsTest");
  private static final int LEAST = Integer.MIN_VALUE;
  private static final int MOST = Integer.MAX_VALUE;

  private interface Maker {
    Used make();
  }

  private interface Call {
    Object on(Used x, int value);
  }

  public static void main(String[] args) {
    rule();
    grammar();
    text();
    tables();
    states();
    askedOfTexts();
    emptyObject();
    fullObject();
    CHECK.end();
  }

  private static Used clashing() {
    return Check.grammar("A>aA A>a A>Ab A>b");
  }

  private static Used made(String rules) {
    return Check.type(Check.grammar(rules), "abc");
  }

  /** All from least to most is allowed, and nothing else. */
  private static void range(String call, Class<?> type, Maker maker, int least, int most, Call body) {
    for (int value = least; value <= most; value++) {
      Used fresh = maker.make();
      int v = value;
      CHECK.allowed(call + " with " + v, () -> body.on(fresh, v));
    }
    refused(call, type, maker, new int[] {least - 1, most + 1, LEAST, MOST}, body);
  }

  private static void refused(String call, Class<?> type, Maker maker, int[] values, Call body) {
    for (int value : values) {
      Used fresh = maker.make();
      CHECK.fails(call + " with " + value, type, fresh, () -> body.on(fresh, value));
    }
  }

  /** "if left is not 0 to 4, many not 0 to 4, or a SYMBOL that it has is not 0 to 9" */
  private static void rule() {
    Maker none = Used::new;
    range("rule: left", ARGUMENT, none, 0, 4, (x, v) -> x.rule(v, 0, 0, 0, 0, 0));
    range("rule: many", ARGUMENT, none, 0, 4, (x, v) -> x.rule(0, v, 0, 0, 0, 0));
    for (int many = 1; many <= 4; many++) {
      int m = many;
      range("rule: a of " + m, ARGUMENT, none, 0, 9, (x, v) -> x.rule(0, m, v, 0, 0, 0));
    }
    for (int many = 2; many <= 4; many++) {
      int m = many;
      range("rule: b of " + m, ARGUMENT, none, 0, 9, (x, v) -> x.rule(0, m, 0, v, 0, 0));
    }
    range("rule: c of 3", ARGUMENT, none, 0, 9, (x, v) -> x.rule(0, 3, 0, 0, v, 0));
    range("rule: c of 4", ARGUMENT, none, 0, 9, (x, v) -> x.rule(0, 4, 0, 0, v, 0));
    range("rule: d of 4", ARGUMENT, none, 0, 9, (x, v) -> x.rule(0, 4, 0, 0, 0, v));
    // "those that it does not have do not matter"
    for (int value : new int[] {-1, 10, LEAST, MOST}) {
      CHECK.allowed("rule: four that do not matter", () -> new Used().rule(0, 0, value, value, value, value));
      CHECK.allowed("rule: three that do not matter", () -> new Used().rule(0, 1, 9, value, value, value));
      CHECK.allowed("rule: two that do not matter", () -> new Used().rule(0, 2, 9, 9, value, value));
      CHECK.allowed("rule: one that does not matter", () -> new Used().rule(0, 3, 9, 9, 9, value));
    }
  }

  private static void grammar() {
    Maker three = () -> made("A>aB B>b A>Aa");
    range("drop", INDEX, three, 0, 2, (x, v) -> x.drop(v));
    range("act: rule", INDEX, three, 0, 2, (x, v) -> x.act(v, 0));
    range("act: act", ARGUMENT, three, 0, 3, (x, v) -> x.act(2, v));
    range("rank: sign", ARGUMENT, three, 0, 4, (x, v) -> x.rank(v, 0, 0));
    range("rank: rank", ARGUMENT, three, 0, 9, (x, v) -> x.rank(4, v, 0));
    range("rank: side", ARGUMENT, three, 0, 2, (x, v) -> x.rank(4, 9, v));
    range("turn", ARGUMENT, three, 0, 4, (x, v) -> x.turn(v));
    range("text", INDEX, three, 0, 2, (x, v) -> x.text(v));
    range("ofRule: rule", INDEX, three, 0, 2, (x, v) -> x.ofRule(v, 0));
    range("ofRule: what", ARGUMENT, three, 0, 4, (x, v) -> x.ofRule(2, v));
    range("ofVariable: variable", ARGUMENT, three, 0, 4, (x, v) -> x.ofVariable(v, 0));
    range("ofVariable: what", ARGUMENT, three, 0, 5, (x, v) -> x.ofVariable(4, v));
    range("shortest", ARGUMENT, three, 0, 4, (x, v) -> x.shortest(v));
  }

  private static void text() {
    Maker three = () -> made("A>aB B>b");
    range("say: a", ARGUMENT, three, -1, 6, (x, v) -> x.say(v, -1, -1, -1, -1, -1));
    range("say: b", ARGUMENT, three, -1, 6, (x, v) -> x.say(-1, v, -1, -1, -1, -1));
    range("say: c", ARGUMENT, three, -1, 6, (x, v) -> x.say(-1, -1, v, -1, -1, -1));
    range("say: d", ARGUMENT, three, -1, 6, (x, v) -> x.say(-1, -1, -1, v, -1, -1));
    range("say: e", ARGUMENT, three, -1, 6, (x, v) -> x.say(-1, -1, -1, -1, v, -1));
    range("say: f", ARGUMENT, three, -1, 6, (x, v) -> x.say(-1, -1, -1, -1, -1, v));
    range("alter: place", INDEX, three, 0, 2, (x, v) -> x.alter(v, 0));
    range("alter: sign", ARGUMENT, three, 0, 4, (x, v) -> x.alter(2, v));
    range("nexts", INDEX, three, 0, 3, (x, v) -> x.nexts(v));
  }

  private static void tables() {
    Maker two = () -> made("A>aA A>b");
    range("begin", ARGUMENT, two, 0, 3, (x, v) -> x.begin(v));
    range("read", ARGUMENT, two, 0, 3, (x, v) -> x.read(v));
    range("states", ARGUMENT, two, 0, 3, (x, v) -> x.states(v));
    range("clashes", ARGUMENT, two, 0, 3, (x, v) -> x.clashes(v));
    range("ofTable: kind", ARGUMENT, two, 0, 3, (x, v) -> x.ofTable(v, 0));
    range("ofTable: what", ARGUMENT, two, 0, 2, (x, v) -> x.ofTable(3, v));
    int last = clashing().clashes(1) - 1;
    range("clash: kind", ARGUMENT, ArgumentsTest::clashing, 0, 3, (x, v) -> x.clash(v, 0, 0));
    range("clash: nth", INDEX, ArgumentsTest::clashing, 0, last, (x, v) -> x.clash(1, v, 0));
    range("clash: what", ARGUMENT, ArgumentsTest::clashing, 0, 4, (x, v) -> x.clash(1, last, v));
  }

  private static void states() {
    Maker two = () -> made("A>aA A>b");
    range("state: kind", INDEX, two, 0, 3, (x, v) -> x.state(v, 0));
    range("action: kind", INDEX, two, 0, 3, (x, v) -> x.action(v, 0, 0));
    range("goes: kind", INDEX, two, 0, 3, (x, v) -> x.goes(v, 0, 0));
    range("looks: kind", INDEX, two, 0, 3, (x, v) -> x.looks(v, 0, 0));
    range("beginning: kind", INDEX, two, 0, 3, (x, v) -> x.beginning(v, 0));
    for (int kind = 0; kind < 4; kind++) {
      int k = kind;
      range("state: state of " + k, INDEX, two, 0, 4, (x, v) -> x.state(k, v));
      range("action: state of " + k, INDEX, two, 0, 4, (x, v) -> x.action(k, v, 0));
      range("action: sign of " + k, ARGUMENT, two, 0, 5, (x, v) -> x.action(k, 4, v));
      range("goes: state of " + k, INDEX, two, 0, 4, (x, v) -> x.goes(k, v, 0));
      range("goes: variable of " + k, ARGUMENT, two, 0, 4, (x, v) -> x.goes(k, 4, v));
      range("looks: state of " + k, INDEX, two, 0, 4, (x, v) -> x.looks(k, v, 0));
      range("looks: rule of " + k, INDEX, two, 0, 1, (x, v) -> x.looks(k, 4, v));
      range("beginning: state of " + k, INDEX, two, 0, 4, (x, v) -> x.beginning(k, v));
    }
  }

  private static void askedOfTexts() {
    Maker two = () -> made("A>aA A>b");
    range("sentences", ARGUMENT, two, 0, 3, (x, v) -> x.sentences(v));
    range("twin", ARGUMENT, two, 0, 3, (x, v) -> x.twin(v));
    range("differ", ARGUMENT, two, 0, 3, (x, v) -> x.differ(v));
    range("house", ARGUMENT, two, 0, 8, (x, v) -> x.house(v));
    int[] below = {-1, LEAST};
    refused("sentence", ARGUMENT, two, below, (x, v) -> x.sentence(v));
    refused("stepAt without a reading", ARGUMENT, two, below, (x, v) -> x.stepAt(v));
    refused("stepAt", ARGUMENT, Check::full, below, (x, v) -> x.stepAt(v));
    for (int value : new int[] {0, MOST}) {
      CHECK.allowed("sentence(" + value + ")", () -> two.make().sentence(value));
      CHECK.allowed("stepAt(" + value + ")", () -> two.make().stepAt(value));
    }
  }

  /** An empty object has no rule, no place, no step, no change, no clash, and two states. */
  private static void emptyObject() {
    Maker none = Used::new;
    int[] all = {-1, 0, 1, LEAST, MOST};
    refused("drop of the empty", INDEX, none, all, (x, v) -> x.drop(v));
    refused("act of the empty", INDEX, none, all, (x, v) -> x.act(v, 0));
    refused("text of the empty", INDEX, none, all, (x, v) -> x.text(v));
    refused("ofRule of the empty", INDEX, none, all, (x, v) -> x.ofRule(v, 0));
    refused("alter of the empty", INDEX, none, all, (x, v) -> x.alter(v, 0));
    refused("undo of the empty", STATE, none, new int[1], (x, v) -> x.undo());
    refused("step of the empty", STATE, none, new int[1], (x, v) -> x.step());
    range("nexts of the empty", INDEX, none, 0, 0, (x, v) -> x.nexts(v));
    for (int kind = 0; kind < 4; kind++) {
      int k = kind;
      refused("looks of the empty " + k, INDEX, none, all, (x, v) -> x.looks(k, 0, v));
      refused("clash of the empty " + k, INDEX, none, all, (x, v) -> x.clash(k, v, 0));
      range("state of the empty " + k, INDEX, none, 0, 1, (x, v) -> x.state(k, v));
      range("action of the empty " + k, INDEX, none, 0, 1, (x, v) -> x.action(k, v, 5));
      range("goes of the empty " + k, INDEX, none, 0, 1, (x, v) -> x.goes(k, v, 4));
      range("beginning of the empty " + k, INDEX, none, 0, 1, (x, v) -> x.beginning(k, v));
    }
  }

  private static void fullObject() {
    Maker full = Check::full;
    CHECK.due("all is full", Check.house(full.make()), "10 10 10 8 10 1 10 26 1");
    range("drop of ten", INDEX, full, 0, 9, (x, v) -> x.drop(v));
    range("act of ten", INDEX, full, 0, 9, (x, v) -> x.act(v, 3));
    range("text of ten", INDEX, full, 0, 9, (x, v) -> x.text(v));
    range("ofRule of ten", INDEX, full, 0, 9, (x, v) -> x.ofRule(v, 4));
    range("looks of ten", INDEX, full, 0, 9, (x, v) -> x.looks(2, 0, v));
    range("alter of ten", INDEX, full, 0, 9, (x, v) -> x.alter(v, 4));
    range("nexts of ten", INDEX, full, 0, 10, (x, v) -> x.nexts(v));
    range("state of 38", INDEX, full, 0, 37, (x, v) -> x.state(3, v));
    range("action of 38", INDEX, full, 0, 37, (x, v) -> x.action(3, v, 5));
    range("goes of 20", INDEX, full, 0, 19, (x, v) -> x.goes(2, v, 4));
    range("beginning of 20", INDEX, full, 0, 19, (x, v) -> x.beginning(1, v));
    range("looks of 20", INDEX, full, 0, 19, (x, v) -> x.looks(0, v, 9));
    refused("rule of ten", STATE, full, new int[] {0, 4}, (x, v) -> x.rule(v, 0, 0, 0, 0, 0));
    refused("say of ten", STATE, full, new int[] {0, 4}, (x, v) -> x.say(v, -1, -1, -1, -1, -1));
  }
}
