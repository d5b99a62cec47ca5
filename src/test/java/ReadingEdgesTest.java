/** Section 3 of the document, "Reading": a test for each sentence that names a boundary case. */
public final class ReadingEdgesTest {
  private static final Class<?> ARGUMENT = IllegalArgumentException.class;
  private static final Class<?> STATE = IllegalStateException.class;
  private static final Class<?> INDEX = IndexOutOfBoundsException.class;
  private static final Check CHECK = new Check("ReadingEdgesTest");
  // Reading takes 198 steps without signs, and two more for each sign.
  private static final String LONG = "A>Aa A>BBCD B>CCCC C>DDDD D>EEEE E>";
  // 341 reduces, one behind the other, without a sign.
  private static final String LONGER = "A>BBBB B>CCCC C>DDDD D>EEEE E>";

  private interface Call {
    void on(Used x);
  }

  public static void main(String[] args) {
    typedAtFirst();
    tenAtMost();
    tenAtSomeMoment();
    emptied();
    takenAway();
    saidInOrder();
    altered();
    atFirst();
    placeBehindAll();
    reduceOfNoneAndFour();
    readingsEnd();
    endedIsThereStill();
    endsItself();
    endsAllTheSame();
    leavesIt();
    theNextOne();
    twoHundredSteps();
    twoHundredStepsOneByOne();
    moreThanTwoHundred();
    refusesAtPlaces();
    noTable();
    sharedWithoutTwo();
    sharedUpTo();
    sharedWhenGone();
    sharedWithTheLastAlone();
    sharedOfAll();
    pileAndSteps();
    treeAndValue();
    derivations();
    CHECK.end();
  }

  private static Used two(String text) {
    return Check.type(Check.grammar("A>aA A>b"), text);
  }

  private static int say(Used x, int order) {
    return x.say(order, -1, -1, -1, -1, -1);
  }

  // ---- what is typed

  /** "TYPED is a TEXT of at most 10 SIGNS (none at first)." */
  private static void typedAtFirst() {
    Used x = new Used();
    CHECK.due("none at first", x.typed() + x.house(2), "0");
    CHECK.due("nothing said", x.say(-1, -1, -1, -1, -1, -1), 0);
    CHECK.due("the smallest sign", say(x, 0), 1);
    CHECK.due("the greatest sign", say(x, 4), 2);
    CHECK.due("typed", x.typed(), "ae");
  }

  private static void tenAtMost() {
    Used x = new Used();
    CHECK.due("six", x.say(0, 1, 2, 3, 4, 0), 6);
    CHECK.due("ten", x.say(1, 2, 3, 4, -1, -1), 10);
    CHECK.due("typed", x.typed(), "abcdeabcde");
    CHECK.fails("eleven", STATE, x, () -> say(x, 0));
    CHECK.due("nothing is not too much", say(x, -1), 10);
    Used nine = Check.type(new Used(), "aaaaaaaaa");
    CHECK.fails("eleven, by two", STATE, nine, () -> nine.say(0, 0, -1, -1, -1, -1));
    CHECK.due("ten, by one", nine.say(-1, -1, -1, -1, -1, 4), 10);
  }

  /** "if TYPED would have more than 10 at some moment" */
  private static void tenAtSomeMoment() {
    Used x = Check.type(new Used(), "aaaaaaaaaa");
    CHECK.fails("eleven, then ten", STATE, x, () -> x.say(1, 6, -1, -1, -1, -1));
    CHECK.fails("eleven, then none", STATE, x, () -> x.say(1, 5, -1, -1, -1, -1));
    CHECK.fails("nine, then eleven, then ten", STATE, x, () -> x.say(6, 1, 1, 6, -1, -1));
    CHECK.fails("with the last one", STATE, x, () -> x.say(6, 1, 6, 1, -1, 1));
    CHECK.due("nine, then ten", x.say(6, 1, 6, 2, 6, 3), 10);
    CHECK.due("typed", x.typed(), "aaaaaaaaad");
    CHECK.due("none, then five", x.say(5, 4, 4, 4, 4, 4), 5);
    CHECK.due("typed", x.typed(), "eeeee");
  }

  /** "5 empties it" */
  private static void emptied() {
    Used x = new Used();
    CHECK.due("without signs", say(x, 5), 0);
    Check.type(x, "abc");
    CHECK.due("with signs", say(x, 5), 0);
    CHECK.due("typed", x.typed(), "");
    Check.type(x, "abcdeabcde");
    CHECK.due("ten", x.say(-1, -1, -1, -1, -1, 5), 0);
    CHECK.due("twice", x.say(0, 5, 1, 5, 5, 2), 1);
    CHECK.due("typed", x.typed(), "c");
  }

  /** "6 takes its last SIGN away (if there is one)" */
  private static void takenAway() {
    Used x = new Used();
    CHECK.due("if there is none", say(x, 6), 0);
    CHECK.due("none was owed", say(x, 3), 1);
    CHECK.due("if there is one", say(x, 6), 0);
    CHECK.due("more than there are", x.say(0, 6, 6, 6, 1, 2), 2);
    CHECK.due("typed", x.typed(), "bc");
    Check.type(x, "abcdeabcde");
    CHECK.due("six of ten", x.say(6, 6, 6, 6, 6, 6), 4);
    CHECK.due("typed", x.typed(), "abcd");
  }

  private static void saidInOrder() {
    Used x = new Used();
    CHECK.due("all six", x.say(4, 3, 2, 1, 0, 4), 6);
    CHECK.due("typed", x.typed(), "edcbae");
    CHECK.due("with nothing between", x.say(5, -1, 0, -1, 1, -1), 2);
    CHECK.due("typed", x.typed(), "ab");
    CHECK.fails("-2", ARGUMENT, x, () -> say(x, -2));
    CHECK.fails("7", ARGUMENT, x, () -> say(x, 7));
  }

  private static void altered() {
    Used x = Check.type(new Used(), "abcdeabcde");
    CHECK.due("the first", x.alter(0, 4), 0);
    CHECK.due("the last", x.alter(9, 0), 4);
    CHECK.due("typed", x.typed(), "ebcdeabcda");
    CHECK.fails("behind the last", INDEX, x, () -> x.alter(10, 0));
    say(x, 6);
    CHECK.fails("where a sign was", INDEX, x, () -> x.alter(9, 0));
    CHECK.due("the new last one", x.alter(8, 3), 3);
  }

  // ---- the reading

  /** "it has a PILE of STATES, at first 0 alone, and a PLACE, at first 0" */
  private static void atFirst() {
    Used x = two("ab");
    CHECK.due("without a reading", x.pile() + x.house(5) + x.house(6) + x.house(7), "0-10");
    for (int kind = 0; kind < 4; kind++) {
      CHECK.due("begin", x.begin(kind), 5);
      CHECK.due("at first", x.pile() + x.house(5) + x.house(6) + x.house(7), "0100");
      CHECK.due("no step", x.stepAt(0), -8);
      x.step();
    }
    CHECK.due("one step", x.pile() + "," + x.house(5) + x.house(6) + x.house(7), "0 1,111");
  }

  /** "END, if PLACE is behind all" and "a SHIFT puts its STATE on the PILE, PLACE is 1 more" */
  private static void placeBehindAll() {
    Used x = two("aaaaaaaaab");
    x.begin(1);
    for (int i = 1; i <= 10; i++) {
      x.step();
      CHECK.due("place", x.house(6), i);
    }
    CHECK.due("a reduce at the end", x.step(), -11);
    CHECK.due("leaves the place", x.house(6), 10);
    Used empty = Check.grammar("A>");
    empty.begin(3);
    CHECK.due("at once behind all", empty.step() + " " + empty.house(6), "-10 0");
    CHECK.due("accepts there", empty.step() + " " + empty.house(6), "-2 0");
  }

  /** "a REDUCE takes as many STATES off the PILE as RIGHT has SYMBOLS" */
  private static void reduceOfNoneAndFour() {
    Used x = Check.type(Check.grammar("A>BaBa B>"), "aa");
    x.begin(1);
    CHECK.due("of none", x.step() + ": " + x.pile(), "-11: 0 " + x.goes(1, 0, 1));
    for (int i = 0; i < 3; i++) {
      x.step();
    }
    CHECK.due("four on the pile", x.pile().split(" ").length, 5);
    CHECK.due("of four", x.step() + ": " + x.pile(), "-10: 0 " + x.goes(1, 0, 0));
  }

  /** "A READING is there from begin() or read() on .. till a CHANGE, undo(), or say() .. or alter()" */
  private static void readingsEnd() {
    Call[] calls = {x -> Check.add(x, "B>"), x -> x.drop(1), x -> x.act(0, 1), x -> x.rank(0, 1, 1),
        x -> x.needless(), x -> x.turn(0), x -> x.shelve(), x -> x.undo(), x -> say(x, 0), x -> say(x, 5),
        x -> say(x, 6), x -> x.alter(0, 4)};
    for (int i = 0; i < calls.length; i++) {
      for (int mode = 0; mode < 3; mode++) {
        Used x = Check.type(Check.grammar("A>Aa A>b B>Bb"), "ba");
        start(x, mode);
        calls[i].on(x);
        gone("call " + i, x);
      }
    }
  }

  private static void start(Used x, int mode) {
    if (mode == 0) {
      x.begin(1);
    } else if (mode == 1) {
      x.begin(2);
      x.step();
    } else {
      x.read(3);
    }
    CHECK.due("it is there", x.house(5), 1);
  }

  private static void gone(String what, Used x) {
    CHECK.due(what + ": reading, place, steps", "" + x.house(5) + x.house(6) + x.house(7), "0-10");
    CHECK.due(what + ": pile, tree, derivation", x.pile() + x.tree() + x.derivation(), "");
    CHECK.due(what + ": value, step", x.value() + " " + x.stepAt(0), "-1 -8");
    CHECK.fails(what + ": step", STATE, x, x::step);
  }

  /** "One that has ended is there still." */
  private static void endedIsThereStill() {
    Used x = two("ab");
    x.read(0);
    CHECK.due("by ACCEPT", x.house(5) + " " + x.pile() + " " + x.step(), "1 0 3 -8");
    CHECK.due("steps", x.house(7), 5);
    Check.type(x, "aa").read(1);
    CHECK.due("by refusing", x.house(5) + " " + x.pile() + " " + x.step(), "1 0 1 1 -8");
    CHECK.due("steps", x.house(7), 3);
    Used y = Check.grammar(LONGER);
    y.read(0);
    CHECK.due("by 200 steps", y.house(5) + " " + y.step(), "1 -8");
    CHECK.due("steps", y.house(7), 200);
  }

  /** "ACCEPT, or no ACTION (this one REFUSES), ends the READING; it is a STEP, too." */
  private static void endsItself() {
    Used x = two("b");
    x.begin(1);
    int[] due = {2, -11, -2, -8, -8};
    for (int i = 0; i < due.length; i++) {
      CHECK.due("step", x.step(), due[i]);
      CHECK.due("how many", x.house(7), Math.min(i + 1, 3));
    }
    CHECK.due("the last is ACCEPT", x.stepAt(2) + " " + x.stepAt(3), "-2 -8");
    Check.type(x, "").begin(1);
    CHECK.due("refuses", x.step(), -1);
    CHECK.due("it is a step", x.house(7) + " " + x.stepAt(0) + " " + x.stepAt(1), "1 -1 -8");
    CHECK.due("then it is over", x.step(), -8);
    CHECK.due("and there is no step more", x.house(7), 1);
    CHECK.due("the pile is as it was", x.pile(), "0");
  }

  /** "comes to something (also if TYPED is as before then)" */
  private static void endsAllTheSame() {
    Call[] calls = {x -> x.alter(0, 0), x -> x.say(0, 6, -1, -1, -1, -1), x -> x.say(6, 1, -1, -1, -1, -1),
        x -> x.say(5, 0, 1, -1, -1, -1), x -> x.act(0, 0), x -> x.rank(3, 0, 0), x -> x.shelve()};
    for (int i = 0; i < calls.length; i++) {
      Used x = two("ab");
      x.read(2);
      String before = x.typed() + Check.rules(x);
      calls[i].on(x);
      CHECK.due("as before", x.typed() + Check.rules(x), before);
      gone("as before: call " + i, x);
    }
    Call[] onNothing = {x -> say(x, 5), x -> say(x, 6), x -> x.say(-1, -1, -1, -1, -1, 5),
        x -> x.say(-1, -1, -1, -1, 6, -1)};
    for (int i = 0; i < onNothing.length; i++) {
      Used x = two("");
      x.begin(0);
      onNothing[i].on(x);
      gone("without signs: call " + i, x);
    }
  }

  /** "say() (with anything but NONE alone)"; "comes to something" */
  private static void leavesIt() {
    Call[] calls = {x -> x.say(-1, -1, -1, -1, -1, -1), x -> x.knock(), x -> x.needless(), x -> x.turn(2),
        x -> x.turn(1), x -> x.digest(), x -> x.isSound(), x -> x.states(3), x -> x.differ(3)};
    for (int i = 0; i < calls.length; i++) {
      Used x = two("ab");
      x.read(1);
      calls[i].on(x);
      CHECK.due("call " + i + " leaves it", x.house(5) + " " + x.house(7) + " " + x.tree(), "1 5 A(aA(b))");
    }
  }

  /** "till the next one" */
  private static void theNextOne() {
    Used x = two("ab");
    x.read(1);
    x.begin(2);
    CHECK.due("the next one has no step", x.pile() + x.house(7) + x.tree() + x.derivation(), "00");
    x.step();
    x.read(3);
    CHECK.due("the next one has all", x.house(7) + x.tree(), "5A(aA(b))");
  }

  /** "It ends also with its 200th STEP, if that is none of these." */
  private static void twoHundredSteps() {
    Used x = Check.type(Check.grammar(LONG), "a");
    CHECK.due("the 200th is ACCEPT", x.read(1), 200);
    CHECK.due("it is a tree", x.tree().startsWith("A(A(B(C(D(E()"), true);
    CHECK.due("its value", x.value(), 1);
    CHECK.due("the last step", x.stepAt(199) + " " + x.stepAt(200), "-2 -8");
    Check.type(x, "ab");
    CHECK.due("the 200th refuses", x.read(0), -101);
    CHECK.due("the last step", x.stepAt(199) + " " + x.stepAt(200), "-1 -8");
    Check.type(x, "aa");
    CHECK.due("the 200th is a shift", x.read(1), -6);
    CHECK.due("the last step", x.stepAt(199) > 0, true);
    CHECK.due("none behind it", x.stepAt(200) + " " + x.house(7) + " " + x.house(6), "-8 200 2");
    CHECK.due("no tree", x.tree() + x.value(), "-1");
    CHECK.due("one sign less", Check.type(x, "").read(1), 198);
    Used y = Check.grammar(LONGER);
    CHECK.due("the 200th is a reduce", y.read(3), -6);
    CHECK.due("the last step", y.stepAt(199) <= -10, true);
    CHECK.due("steps", y.house(7) + " " + y.house(6), "200 0");
  }

  private static void twoHundredStepsOneByOne() {
    Used x = Check.type(Check.grammar(LONG), "aa");
    x.begin(0);
    for (int i = 1; i <= 200; i++) {
      CHECK.due("step " + i, x.step() == -8, false);
    }
    CHECK.due("the 201st", x.step(), -8);
    CHECK.due("steps", x.house(7), 200);
    Used y = Check.type(Check.grammar(LONG), "a");
    y.begin(0);
    for (int i = 1; i < 200; i++) {
      y.step();
    }
    CHECK.due("not yet", y.tree() + y.value(), "-1");
    CHECK.due("the 200th", y.step(), -2);
    CHECK.due("then it has a tree", y.value(), 1);
    CHECK.due("the 201st", y.step(), -8);
  }

  private static void moreThanTwoHundred() {
    Used x = Check.grammar(LONGER);
    x.read(2);
    CHECK.due("what was done", x.derivation().split(" ").length, 200);
    CHECK.due("the pile is there", x.pile().startsWith("0 "), true);
    CHECK.due("it is sound all the same", x.isSound(), true);
    CHECK.due("the sentence has one tree", x.trees(), 1);
  }

  /** "-100 less its PLACE, if it REFUSES" */
  private static void refusesAtPlaces() {
    String[] texts = {"", "c", "a", "ac", "ba", "aaaaaaaaaa", "aaaaaaaaac"};
    int[] due = {-100, -100, -101, -101, -101, -110, -109};
    for (int i = 0; i < texts.length; i++) {
      CHECK.due("read of " + texts[i], two(texts[i]).read(1), due[i]);
    }
    CHECK.due("of kind 0, one reduce ahead", two("ba").read(0), -101);
    CHECK.due("ten are read", two("aaaaaaaaab").read(1), 10 + 10 + 1);
  }

  /** "if that table is not there, or has a CLASH"; what is SETTLED is none */
  private static void noTable() {
    Used x = Check.grammar("A>AcA A>e");
    for (int kind = 0; kind < 4; kind++) {
      int k = kind;
      CHECK.fails("begin with a clash", STATE, x, () -> x.begin(k));
      CHECK.fails("read with a clash", STATE, x, () -> x.read(k));
    }
    x.rank(2, 1, 2);
    for (int kind = 0; kind < 4; kind++) {
      CHECK.due("begin of what is settled", x.begin(kind) > 0, true);
      CHECK.due("read of what is settled", Check.type(x, "ece").read(kind), 7);
      CHECK.due("settled as none", Check.type(x, "ecece").read(kind), -103);
    }
  }

  // ---- SHARED

  /** "0 without two" */
  private static void sharedWithoutTwo() {
    Used x = two("ab");
    CHECK.due("without one", x.shared(), 0);
    x.begin(0);
    CHECK.due("begun", x.shared(), 0);
    x.step();
    CHECK.due("a step of one alone", x.shared(), 0);
    x.read(0);
    CHECK.due("with two", x.shared(), 1);
    Used y = two("ab");
    y.read(0);
    CHECK.due("read once", y.shared(), 0);
    CHECK.fails("a third that is refused", ARGUMENT, y, () -> y.begin(4));
    CHECK.due("still one", y.shared(), 0);
  }

  /** "from the first one on up to the first ones that are unlike, are the same numbers" */
  private static void sharedUpTo() {
    shared("ab", "ab", 5);
    shared("ab", "b", 0);
    shared("aab", "aaab", 2);
    shared("aaab", "aab", 2);
    shared("a", "ab", 1);
    shared("", "c", 1);
    shared("a", "ac", 2);
    shared("aaaaaaaaab", "aaaaaaaaab", 21);
    // The ones behind the first that are unlike do not count, though they are alike again.
    Used x = Check.grammar("A>aB A>bB B>cc");
    Check.type(x, "acc").read(1);
    Check.type(x, "bcc").read(1);
    CHECK.due("unlike at once", x.shared(), 0);
  }

  private static void shared(String before, String now, int due) {
    Used x = two(before);
    x.read(1);
    Check.type(x, now).read(1);
    CHECK.due("shared of " + before + " and " + now, x.shared(), due);
  }

  /** "of those begun ever, also if they are there no more" */
  private static void sharedWhenGone() {
    Used x = two("ab");
    x.read(0);
    x.read(1);
    CHECK.due("two that are alike", x.shared(), 5);
    Call[] calls = {y -> say(y, 0), y -> y.alter(0, 1), y -> Check.add(y, "B>"), y -> y.undo(), y -> y.knock()};
    for (int i = 0; i < calls.length; i++) {
      calls[i].on(x);
      CHECK.due("call " + i, x.shared(), 5);
    }
    x.begin(2);
    CHECK.due("a third without steps", x.shared(), 0);
    x.step();
    CHECK.due("a third with one", x.shared(), 0);
    Check.type(x, "b").begin(2);
    x.step();
    CHECK.due("a fourth as the third", x.shared(), 1);
  }

  /** The steps of one that was begun long ahead do not count. */
  private static void sharedWithTheLastAlone() {
    Used x = two("aab");
    x.read(0);
    x.read(0);
    x.begin(0);
    x.step();
    x.step();
    CHECK.due("two yet", x.shared(), 2);
    x.read(0);
    CHECK.due("two of all", x.shared(), 2);
    x.begin(0);
    x.read(0);
    CHECK.due("none with one that has none", x.shared(), 0);
  }

  /** All 200 steps of one and all 200 of the other. */
  private static void sharedOfAll() {
    Used x = Check.grammar(LONGER);
    x.read(0);
    x.read(3);
    CHECK.due("all", x.shared(), 200);
    x.begin(3);
    CHECK.due("none", x.shared(), 0);
    x.step();
    CHECK.due("one", x.shared(), 1);
  }

  // ---- what is asked of it

  private static void pileAndSteps() {
    Used x = two("ab");
    x.begin(1);
    String[] piles = {"0", "0 1", "0 1 2", "0 1 4", "0 3", "0 3"};
    for (int i = 0; i < piles.length; i++) {
      CHECK.due("pile after " + i, x.pile(), piles[i]);
      CHECK.due("the next is not there", x.stepAt(Math.min(i, 5)), -8);
      x.step();
    }
    CHECK.due("far off", x.stepAt(Integer.MAX_VALUE), -8);
    CHECK.fails("below 0", ARGUMENT, x, () -> x.stepAt(-1));
  }

  private static void treeAndValue() {
    Used x = two("b");
    CHECK.due("without a reading", x.tree() + x.value(), "-1");
    x.begin(3);
    x.step();
    x.step();
    CHECK.due("all but ACCEPT", x.tree() + x.value(), "-1");
    x.step();
    CHECK.due("with ACCEPT", x.tree() + x.value(), "A(b)2");
    Check.type(x, "bb").read(3);
    CHECK.due("refused", x.tree() + x.value(), "-1");
  }

  private static void derivations() {
    Used x = Check.grammar("B>a B>b B>c B>d B>e A>BBBB");
    CHECK.due("without a reading", x.derivation(), "");
    Check.type(x, "aecd").read(1);
    CHECK.due("the last one first", x.derivation(), "5 3 2 4 0");
    Check.type(x, "aecb").read(1);
    CHECK.due("the last one first", x.derivation(), "5 1 2 4 0");
    Check.type(x, "aee").read(1);
    CHECK.due("also if it refuses", x.derivation(), "4 4 0");
    Check.type(x, "").read(1);
    CHECK.due("without reduces", x.derivation(), "");
    Used y = Check.type(Check.grammar("C>a C>b C>c C>d C>e C>aa C>bb C>cc C>dd A>E"), "e");
    y.drop(8);
    CHECK.due("the last rule's number", Check.add(y, "E>e"), 9);
    y.read(1);
    CHECK.due("numbers of rules", y.derivation(), "8 9");
  }
}
