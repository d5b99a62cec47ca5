/** Promises 11 to 15 and 30 to 36: what is typed, and its reading. */
public final class ReadingTest {
  private static final Class<?> ARGUMENT = IllegalArgumentException.class;
  private static final Class<?> STATE = IllegalStateException.class;
  private static final Class<?> INDEX = IndexOutOfBoundsException.class;
  private static final Check CHECK = new Check("ReadingTest");
  private static final String SUMS = "A>AcB A>B B>BdC B>C C>aAb C>e";
  // Empty parts take 5, 21 and 85 steps; each sign adds two.
  private static final String LONG = "A>Aa A>BBCD B>CCCC C>DDDD D>EEEE E>";
  private static final String MANY = "A>BBBB B>CC B> C>a C>bD D>BCc D>d C>eCE E>e E>Ed";

  public static void main(String[] args) {
    promise11();
    promise12();
    promise13();
    promise14();
    promise15();
    promise15Endless();
    endsOfReading();
    promise30();
    promise31();
    promise32();
    promise33();
    promise34();
    promise35();
    promise36();
    CHECK.end();
  }

  private static void promise11() {
    Used x = new Used();
    CHECK.due("say", x.say(0, -1, 4, -1, 2, -1), 3);
    CHECK.due("typed", x.typed(), "aec");
    CHECK.due("say nothing", x.say(-1, -1, -1, -1, -1, -1), 3);
    CHECK.due("take away and empty", x.say(6, 6, 1, 5, 3, 3), 2);
    CHECK.due("typed", x.typed(), "dd");
    CHECK.due("take away from nothing", x.say(6, 6, 6, 6, 1, -1), 1);
    CHECK.due("typed", x.typed(), "b");
    Check.type(x, "abcdeabcd");
    CHECK.due("the tenth", x.say(4, -1, -1, -1, -1, -1), 10);
    CHECK.fails("an eleventh", STATE, x, () -> x.say(0, -1, -1, -1, -1, -1));
    CHECK.fails("too many for a moment", STATE, x, () -> x.say(0, 6, -1, -1, -1, -1));
    CHECK.fails("too many before all goes", STATE, x, () -> x.say(6, 0, 0, 5, -1, -1));
    CHECK.due("one goes first", x.say(6, 0, 6, 1, -1, -1), 10);
    CHECK.due("typed", x.typed(), "abcdeabcdb");
    for (int place = 0; place < 6; place++) {
      int[] row = {-1, -1, -1, -1, -1, -1};
      row[place] = place % 2 == 0 ? 7 : -2;
      CHECK.fails("a wrong sign", ARGUMENT, x, () -> x.say(row[0], row[1], row[2], row[3], row[4], row[5]));
    }
    CHECK.fails("wrong, and too many", ARGUMENT, x, () -> x.say(0, 0, 0, 0, 0, 7));
  }

  private static void promise12() {
    Used x = Check.type(new Used(), "abc");
    CHECK.due("alter(1, 4)", x.alter(1, 4), 1);
    CHECK.due("alter(0, 0)", x.alter(0, 0), 0);
    CHECK.due("alter(2, 3)", x.alter(2, 3), 2);
    CHECK.due("typed", x.typed(), "aed");
    CHECK.fails("alter(3, 0)", INDEX, x, () -> x.alter(3, 0));
    CHECK.fails("alter(-1, 9)", INDEX, x, () -> x.alter(-1, 9));
    CHECK.fails("alter(0, 5)", ARGUMENT, x, () -> x.alter(0, 5));
    CHECK.fails("alter(0, -1)", ARGUMENT, x, () -> x.alter(0, -1));
    x.say(5, -1, -1, -1, -1, -1);
    CHECK.fails("alter of nothing", INDEX, x, () -> x.alter(0, 0));
  }

  private static void promise13() {
    Used x = Check.type(Check.grammar(SUMS), "e");
    CHECK.due("begin(1)", x.begin(1), 12);
    CHECK.due("begin(2)", x.begin(2), 12);
    CHECK.due("begin(3)", x.begin(3), 22);
    CHECK.due("house", Check.house(x), "6 6 1 6 0 1 0 0 0");
    CHECK.fails("begin(0) with clashes", STATE, x, () -> x.begin(0));
    CHECK.fails("begin(-1)", ARGUMENT, x, () -> x.begin(-1));
    CHECK.fails("begin(4)", ARGUMENT, x, () -> x.begin(4));
    Used many = Check.grammar(MANY);
    CHECK.fails("begin(2) that is not there", STATE, many, () -> many.begin(2));
    CHECK.fails("begin(3) that is not there", STATE, many, () -> many.begin(3));
    Used settled = Check.grammar("A>AcA A>e");
    settled.rank(2, 1, 2);
    CHECK.due("begin of a settled table", settled.begin(0), 5);
  }

  private static void promise14() {
    Used x = Check.type(Check.grammar("A>aAb A>"), "ab");
    CHECK.fails("step without a reading", STATE, x, x::step);
    x.begin(1);
    int[] due = {1, -11, 4, -10, -2, -8, -8};
    for (int action : due) {
      CHECK.due("step", x.step(), action);
    }
    CHECK.due("steps", x.house(7), 5);
    Check.type(x, "ba");
    CHECK.fails("step after say", STATE, x, x::step);
    x.begin(3);
    CHECK.due("refuses", x.step(), -1);
    CHECK.due("has refused", x.step(), -8);
    CHECK.due("steps", x.house(7), 1);
    CHECK.due("still there", x.house(5), 1);
  }

  private static void promise15() {
    Used x = Check.grammar("A>aAb A>");
    CHECK.due("read the empty text", x.read(1), 2);
    Check.type(x, "aabb");
    CHECK.due("read", x.read(3), 8);
    CHECK.due("place", x.house(6), 4);
    Check.type(x, "aabbb");
    CHECK.due("refuses behind four", x.read(2), -104);
    CHECK.due("place", x.house(6), 4);
    Check.type(x, "aab");
    CHECK.due("refuses at the end", x.read(2), -103);
    Check.type(x, "c");
    CHECK.due("refuses at once", x.read(2), -100);
    CHECK.fails("read(0) with clashes", STATE, x, () -> x.read(0));
    CHECK.fails("read(-1)", ARGUMENT, x, () -> x.read(-1));
    CHECK.fails("read(4)", ARGUMENT, x, () -> x.read(4));
    Used many = Check.grammar(MANY);
    CHECK.fails("read(3) that is not there", STATE, many, () -> many.read(3));
  }

  private static void promise15Endless() {
    Used x = Check.grammar(LONG);
    CHECK.due("empty", x.read(0), 198);
    Check.type(x, "a");
    CHECK.due("accepts with the 200th step", x.read(0), 200);
    CHECK.due("last step", x.stepAt(199), -2);
    Check.type(x, "aa");
    CHECK.due("one more sign", x.read(0), -6);
    CHECK.due("steps", x.house(7), 200);
    CHECK.due("place", x.house(6), 2);
    CHECK.due("no more steps", x.stepAt(200), -8);
    CHECK.due("last step", x.stepAt(199), 6);
    CHECK.due("over", x.step(), -8);
    CHECK.due("tree", x.tree(), "");
    CHECK.due("value", x.value(), -1);
    Check.type(x, "ab");
    CHECK.due("refuses with the 200th step", x.read(0), -101);
    CHECK.due("steps", x.house(7), 200);
    CHECK.due("sound all the same", x.isSound(), true);
  }

  private static void endsOfReading() {
    Used x = Check.type(Check.grammar("A>aA A>b"), "ab");
    Runnable[] calls = {() -> x.say(6, 1, -1, -1, -1, -1), () -> x.alter(1, 1), () -> x.rank(0, 0, 0),
        () -> x.act(0, 0), () -> x.shelve(), () -> x.undo(), () -> Check.add(x, "B>"), () -> x.needless(),
        () -> x.say(5, 0, 1, -1, -1, -1), () -> x.drop(1)};
    for (int i = 0; i < calls.length; i++) {
      x.read(1);
      calls[i].run();
      CHECK.due("call " + i + " ends the reading", x.house(5), 0);
      CHECK.due("call " + i + ": place", x.house(6), -1);
    }
    Check.add(x, "A>b");
    x.read(1);
    Runnable[] others = {() -> x.say(-1, -1, -1, -1, -1, -1), () -> x.knock(), () -> x.needless(),
        () -> x.turn(0), () -> x.digest(), () -> x.isSound(), () -> x.mend(), () -> x.trees(),
        () -> x.nexts(1), () -> x.differ(2)};
    for (int i = 0; i < others.length; i++) {
      others[i].run();
      CHECK.due("call " + i + " leaves the reading", Check.house(x), "2 2 2 8 0 1 2 5 " + (i > 0 ? 1 : 0));
    }
    Used empty = Check.grammar("A>");
    empty.begin(0);
    empty.say(6, -1, -1, -1, -1, -1);
    CHECK.due("taking nothing away ends it", empty.house(5), 0);
    empty.begin(0);
    empty.say(5, -1, -1, -1, -1, -1);
    CHECK.due("emptying nothing ends it", empty.house(5), 0);
  }

  private static void promise30() {
    Used x = Check.type(Check.grammar("A>aAb A>"), "aabb");
    CHECK.due("no reading", x.pile(), "");
    x.begin(2);
    CHECK.due("at first", x.pile(), "0");
    x.step();
    x.step();
    CHECK.due("after two", x.pile(), "0 1 1");
    x.step();
    CHECK.due("after three", x.pile(), "0 1 1 3");
    x.read(2);
    CHECK.due("at the end", x.pile(), "0 2");
    Check.type(x, "ab");
    CHECK.due("gone", x.pile(), "");
    Used deep = Check.type(Check.grammar("A>aA A>aB B>b"), "aaaaaaaaab");
    deep.begin(1);
    for (int i = 0; i < 10; i++) {
      deep.step();
    }
    CHECK.due("ten deep", deep.pile(), "0 1 1 1 1 1 1 1 1 1 " + deep.stepAt(9));
  }

  private static void promise31() {
    Used x = Check.type(Check.grammar("A>aA A>b"), "ab");
    CHECK.due("no reading", x.stepAt(0), -8);
    x.begin(0);
    CHECK.due("no step yet", x.stepAt(0), -8);
    x.step();
    CHECK.due("the first", x.stepAt(0), 1);
    CHECK.due("not yet", x.stepAt(1), -8);
    x.read(0);
    int[] due = {1, 2, -11, -10, -2, -8};
    for (int i = 0; i < due.length; i++) {
      CHECK.due("stepAt(" + i + ")", x.stepAt(i), due[i]);
    }
    CHECK.due("far off", x.stepAt(Integer.MAX_VALUE), -8);
    CHECK.fails("stepAt(-1)", ARGUMENT, x, () -> x.stepAt(-1));
    Check.type(x, "");
    CHECK.fails("stepAt(-1) without a reading", ARGUMENT, x, () -> x.stepAt(-1));
    x.read(0);
    CHECK.due("refused", x.stepAt(0), -1);
  }

  private static void promise32() {
    Used x = Check.type(Check.grammar(SUMS), "ecede");
    x.alter(2, 4);
    x.alter(3, 3);
    CHECK.due("no reading", x.tree(), "");
    CHECK.due("read", x.read(1) > 0, true);
    CHECK.due("tree", x.tree(), "A(A(B(C(e)))cB(B(C(e))dC(e)))");
    x.begin(1);
    x.step();
    CHECK.due("not yet", x.tree(), "");
    Check.type(x, "ec");
    x.read(1);
    CHECK.due("refused", x.tree(), "");
    Used empty = Check.grammar("A>BCB B> C>B");
    empty.read(1);
    CHECK.due("empty text", empty.tree(), "A(B()C(B())B())");
    Used a = Check.grammar("A>");
    a.read(0);
    CHECK.due("nothing at all", a.tree(), "A()");
    Used deep = Check.type(Check.grammar("A>aA A>"), "aaaaaaaaaa");
    deep.read(1);
    CHECK.due("ten deep", deep.tree(), "A(a".repeat(10) + "A()" + ")".repeat(10));
  }

  private static void promise33() {
    Used x = Check.type(Check.grammar("A>BBBB B>a B>b B>c B>d"), "dacb");
    int[] due = {4 + 1 + 3 + 2, 4 * 1 * 3 * 2, 1000003 + 4 - 1 - 3 - 2, 4};
    for (int act = 0; act < 4; act++) {
      x.act(0, act);
      CHECK.due("no reading", x.value(), -1);
      x.read(0);
      CHECK.due("value with act " + act, x.value(), due[act]);
    }
    Used empty = Check.grammar("A>B B>");
    for (int act = 0; act < 4; act++) {
      empty.act(1, act);
      empty.read(0);
      CHECK.due("empty rule with act " + act, empty.value(), act == 1 ? 1 : 0);
    }
    Used powers = Check.type(Check.grammar("A>eA A>e"), "eeeeeeeeee");
    powers.act(0, 1);
    powers.read(1);
    CHECK.due("5^10 mod 1000003", powers.value(), 9765625 % 1000003);
    Used less = Check.type(Check.grammar("A>aB B>be"), "abe");
    less.act(0, 3);
    less.act(1, 2);
    less.read(3);
    CHECK.due("below 0 counts as large", less.value(), 1000000);
    less.act(0, 2);
    less.read(3);
    CHECK.due("one less three below 0", less.value(), 1 + 3);
    less.begin(3);
    CHECK.due("not yet", less.value(), -1);
    Check.type(less, "ab");
    less.read(3);
    CHECK.due("refused", less.value(), -1);
  }

  private static void promise34() {
    Used x = Check.type(Check.grammar("A>BC B>a C>cC C>"), "acc");
    CHECK.due("no reading", x.derivation(), "");
    x.begin(1);
    x.step();
    CHECK.due("no reduce yet", x.derivation(), "");
    x.step();
    CHECK.due("one", x.derivation(), "1");
    x.read(1);
    CHECK.due("all", x.derivation(), "0 2 2 3 1");
    Check.type(x, "ab");
    x.read(1);
    CHECK.due("refused", x.derivation(), "");
    x.read(1);
    x.knock();
    CHECK.due("place", x.house(6), 1);
  }

  private static void promise35() {
    Used x = Check.grammar("A>aA A>b");
    CHECK.due("without", x.shared(), 0);
    Check.type(x, "aab").read(0);
    CHECK.due("with one alone", x.shared(), 0);
    Check.type(x, "ab").read(0);
    CHECK.due("one is the same", x.shared(), 1);
    x.read(0);
    CHECK.due("all the same", x.shared(), 5);
    x.begin(0);
    CHECK.due("none yet", x.shared(), 0);
    x.step();
    x.step();
    CHECK.due("two yet", x.shared(), 2);
    Check.type(x, "ac");
    CHECK.due("also if it is there no more", x.shared(), 2);
    x.read(0);
    CHECK.due("with the one of two steps", x.shared(), 1);
    x.read(0);
    CHECK.due("refusing is the same, too", x.shared(), 2);
    Check.add(x, "B>");
    CHECK.due("after a change", x.shared(), 2);
    x.undo();
    CHECK.due("after undo", x.shared(), 2);
    CHECK.fails("begin of no kind", ARGUMENT, x, () -> x.begin(9));
    CHECK.due("after a begin that threw", x.shared(), 2);
  }

  private static void promise36() {
    Used x = new Used();
    CHECK.due("nothing", x.typed(), "");
    x.say(0, 1, 2, 3, 4, 0);
    CHECK.due("all signs", x.typed(), "abcdea");
  }
}
