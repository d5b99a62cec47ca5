import java.math.BigInteger;

/** Promises 36 to 46, texts and sentences: a test for each sentence that names a boundary case. */
public final class TextEdgesTest {
  private static final Class<?> ARGUMENT = IllegalArgumentException.class;
  private static final Class<?> INDEX = IndexOutOfBoundsException.class;
  private static final Check CHECK = new Check("TextEdgesTest");
  // D has ten trees, B a hundred, and A a million, by E with two. None has a sign.
  private static final String MILLION = "A>BBB B>DD D>E D>EEE E> E>C C>";
  // The same with signs: D has ten trees of one sign, B a hundred of three.
  private static final String MILLION_OF_TEN = "A>BBBa B>DaD D>aE D>aEEE E> E>C C>";
  // D has 3 trees, C 10, B 99: 3 * 10 * 10 * 99 + 99 * 99 * 99.
  private static final String ONE_LESS = "A>DCCB A>BBB B>DD B>DDC C> C>DD D> D>E D>EE E>";
  // Each text is a sentence.
  private static final String ALL = "A>aA A>bA A>cA A>dA A>eA A>";

  public static void main(String[] args) {
    nextsOfNone();
    nextsBehindAll();
    nextsOfTen();
    mendOfNothing();
    mendOfSentences();
    mendOfTen();
    treesOfNone();
    treesOfAMillion();
    treesOfMore();
    treesOfFarMore();
    treesWithARing();
    sentencesOfAll();
    sentencesOfNone();
    sentencesInOrder();
    twins();
    differences();
    differencesByUsefulRules();
    houses();
    sound();
    soundIfSettled();
    soundIfEndless();
    digestStarts();
    digestWraps();
    digestOfManyStates();
    CHECK.end();
  }

  private static Used typed(String rules, String text) {
    return Check.type(Check.grammar(rules), text);
  }

  // ---- nexts

  /** "0, if no SENTENCE begins with them" */
  private static void nextsOfNone() {
    CHECK.due("without rules", new Used().nexts(0), 0);
    CHECK.due("A does not grow", Check.grammar("A>aA").nexts(0), 0);
    Used x = typed("A>ab", "abb");
    int[] due = {1, 2, 32, 0};
    for (int place = 0; place < 4; place++) {
      CHECK.due("nexts(" + place + ")", x.nexts(place), due[place]);
    }
    CHECK.due("a wrong first sign", typed("A>ab", "b").nexts(1), 0);
    CHECK.due("ahead of it", typed("A>ab", "b").nexts(0), 1);
  }

  /** "a place of TYPED, or behind all", "(END is 5 in it, if these are a SENTENCE)" */
  private static void nextsBehindAll() {
    Used x = typed("A>", "");
    CHECK.due("the empty sentence alone", x.nexts(0), 32);
    CHECK.due("no sentence is so short", Check.grammar("A>e").nexts(0), 16);
    CHECK.due("all signs and END", Check.grammar(ALL).nexts(0), 63);
    Used y = typed("A>aAb A>", "ab");
    CHECK.due("behind all", y.nexts(2), 32);
    CHECK.due("behind the first", y.nexts(1), 3);
    CHECK.fails("behind that", INDEX, y, () -> y.nexts(3));
    CHECK.fails("ahead of all", INDEX, y, () -> y.nexts(-1));
    CHECK.due("through five, downwards", Check.grammar("A>B B>C C>D D>E E>b").nexts(0), 2);
    CHECK.due("through five, upwards", Check.grammar("A>E E>D D>C C>B B>b").nexts(0), 2);
    CHECK.due("through five that are hollow", Check.grammar("A>Ea E>D D>C C>B B>").nexts(0), 1);
    CHECK.due("behind five", typed("A>E E>D D>C C>B B>b", "b").nexts(1), 32);
    CHECK.due("behind five that are hollow", typed("A>aE E>D D>C C>B B> B>e", "a").nexts(1), 48);
    Used dead = Check.grammar("A>aB A>bC A>c C>C B>e");
    CHECK.due("only what comes to a sentence", dead.nexts(0), 5);
  }

  private static void nextsOfTen() {
    Used x = typed("A>aA A>bA A>", "ababababab");
    for (int place = 0; place <= 10; place++) {
      CHECK.due("nexts(" + place + ")", x.nexts(place), 35);
    }
    x.alter(9, 2);
    CHECK.due("behind ten that begin no sentence", x.nexts(10) + " " + x.nexts(9), "0 35");
    Used deep = typed("A>aAb A>ab", "aaaaaaaaaa");
    CHECK.due("ten that must be closed", deep.nexts(10), 3);
    Used closed = typed("A>aAb A>ab", "aaaaabbbbb");
    CHECK.due("ten that are closed", closed.nexts(10) + " " + closed.nexts(9), "32 2");
  }

  // ---- mend

  /** "NONE, if there is no SENTENCE" */
  private static void mendOfNothing() {
    CHECK.due("without rules", new Used().mend(), -1);
    CHECK.due("A does not grow", typed("A>aA B>b", "b").mend(), -1);
    CHECK.due("the empty sentence", typed("A>", "").mend(), 0);
  }

  private static void mendOfSentences() {
    CHECK.due("all must be taken out", typed("A>", "abc").mend(), 3);
    CHECK.due("all must be put in", typed("A>abcd", "").mend(), 4);
    CHECK.due("a sign that is another one is two", typed("A>a", "b").mend(), 2);
    CHECK.due("two that are changed about", typed("A>ab", "ba").mend(), 2);
    CHECK.due("at the beginning", typed("A>abc", "bc").mend(), 1);
    CHECK.due("in the middle", typed("A>abc", "ac").mend(), 1);
    CHECK.due("at the end", typed("A>abc", "ab").mend(), 1);
    CHECK.due("one too many ahead", typed("A>abc", "eabc").mend(), 1);
    CHECK.due("one too many behind", typed("A>abc", "abce").mend(), 1);
    CHECK.due("with a ring", typed("A>AA A>A A>a A>", "aba").mend(), 1);
  }

  private static void mendOfTen() {
    CHECK.due("ten that are one", typed("A>aA A>", "aaaaaaaaaa").mend(), 0);
    CHECK.due("ten to take out", typed("A>", "abcdeabcde").mend(), 10);
    CHECK.due("an eleventh is put in", typed("A>BBBc B>ab B>aba", "abababaaba").mend(), 2);
    CHECK.due("ten more are put in", typed("A>aAb A>", "aaaaaaaaaa").mend(), 10);
    CHECK.due("the longest text", typed("A>BBBB B>CCCC C>DDDD D>EEEE E>aaaa", "").mend(), 1024);
    CHECK.due("ten signs less", typed("A>BBBB B>CCCC C>DDDD D>EEEE E>aaaa", "aaaaaaaaaa").mend(), 1014);
    CHECK.due("ten signs more", typed("A>BBBB B>CCCC C>DDDD D>EEEE E>aaaa", "bbbbbbbbbb").mend(), 1034);
  }

  // ---- trees

  private static void trees(String rules, String text, int due) {
    CHECK.due("trees of " + text + " by " + rules, typed(rules, text).trees(), due);
  }

  private static void treesOfNone() {
    trees("", "", 0);
    trees("A>aA", "", 0);
    trees("A>", "", 1);
    trees("A>", "a", 0);
    trees("A>a", "", 0);
    trees("A>a A>B B>a", "a", 2);
    trees("A>aA A>", "aaaaaaaaaa", 1);
    trees("A>abcA A>", "abcabcabca", 0);
  }

  /** "MANY, if these are more than 1000000": just so many are not */
  private static void treesOfAMillion() {
    trees(MILLION, "", 1000000);
    trees(MILLION_OF_TEN, "aaaaaaaaaa", 1000000);
    trees(MILLION_OF_TEN, "aaaaaaaaa", 0);
    trees(ONE_LESS, "", 999999);
    trees("A>BBBa B>DD D>E D>EEE E> E>C C>", "a", 1000000);
  }

  /** One tree more, by one rule more, and others near to it. */
  private static void treesOfMore() {
    trees(MILLION + " A>", "", -5);
    trees("A> " + MILLION, "", -5);
    trees(MILLION + " A>aaaa", "", 1000000);
    trees("A>BBBa B>DD D>E D>EEE E> E>C C> A>a", "a", -5);
    trees("A>BBBa B>DD D>E D>EEE E> E>C C> A>b", "b", 1);
  }

  /** Parts with far more trees than a number holds, and parts that come to nothing all the same. */
  private static void treesOfFarMore() {
    String far = "A>BBBB B>CCCC C>DDDD D> D>E D>EE D>EEE D>EEEE E>";
    trees(far, "", -5);
    trees(far + " A>a", "a", 1);
    trees(far + " A>Bb", "a", 0);
    trees(far + " A>Bb", "b", -5);
    trees("A>Ba A>b B>CCCC C>DDDD D> D>E D>EE D>EEE E>", "b", 1);
    trees("A>AA A>a A>AAA A>AAAA", "aaaaaaaaaa", 91542);
    trees("A>AA A>a A>AAA A>AAAA A>aa A>aaa", "aaaaaaaaaa", 488080);
  }

  /** "RING, if the grammar has one": also for a text that is no sentence */
  private static void treesWithARing() {
    trees("A>A A>", "", -7);
    trees("A>A A>a", "b", -7);
    trees("A>A", "", 0);
    trees("A>a B>B B>b", "a", 1);
    trees("A>BBBB B>CCCC C>DDDD D> D>E D>EE D>EEE E> E>A", "a", -7);
  }

  // ---- sentences of few signs

  /** "how many SENTENCES have just so many" */
  private static void sentencesOfAll() {
    Used x = Check.grammar(ALL);
    int[] due = {1, 5, 25, 125};
    for (int length = 0; length < 4; length++) {
      CHECK.due("sentences(" + length + ")", x.sentences(length), due[length]);
    }
    CHECK.due("the first", x.sentence(0), "");
    CHECK.due("the second", x.sentence(1), "a");
    CHECK.due("the last of one sign", x.sentence(5), "e");
    CHECK.due("the first of two", x.sentence(6), "aa");
    CHECK.due("the last of two", x.sentence(30), "ee");
    CHECK.due("the first of three", x.sentence(31), "aaa");
    CHECK.due("in between", x.sentence(31 + 2 * 25 + 3 * 5 + 1), "cdb");
    CHECK.due("the last of three", x.sentence(155), "eee");
    CHECK.due("none behind it", x.sentence(156), "none");
    CHECK.fails("none ahead of the first", ARGUMENT, x, () -> x.sentence(-1));
  }

  /** ""none", if there are not so many" */
  private static void sentencesOfNone() {
    for (String rules : new String[] {"", "A>aA", "A>abcd", "B>"}) {
      Used x = Check.grammar(rules);
      for (int length = 0; length < 4; length++) {
        CHECK.due("sentences by " + rules, x.sentences(length), 0);
        CHECK.due("twin by " + rules, x.twin(length), "none");
      }
      CHECK.due("sentence by " + rules, x.sentence(0), "none");
    }
    Used four = Check.grammar("A>abcd A>eee");
    CHECK.due("three signs at most", four.sentence(0) + four.sentence(1), "eeenone");
    Used one = Check.grammar("A>");
    CHECK.due("the empty one alone", one.sentence(0) + one.sentence(1) + one.sentences(0), "none1");
  }

  private static void sentencesInOrder() {
    Used x = Check.grammar("A>BB B> B>b B>a");
    String[] due = {"", "a", "b", "aa", "ab", "ba", "bb", "none"};
    for (int nth = 0; nth < due.length; nth++) {
      CHECK.due("each once, in order", x.sentence(nth), due[nth]);
    }
    Used ring = Check.grammar("A>A A>AA A>c A>");
    CHECK.due("with a ring", ring.sentence(3) + ring.sentence(4) + ring.sentences(3), "cccnone1");
  }

  /** "the first SENTENCE that has two TREES or more; "none", if there is none, or .. a RING" */
  private static void twins() {
    Used x = Check.grammar("A>BC B> B>a C> C>a B>bb C>bb");
    String[] due = {"none", "a", "a", "a"};
    for (int length = 0; length < 4; length++) {
      CHECK.due("twin(" + length + ")", x.twin(length), due[length]);
    }
    Used three = Check.grammar("A>AA A>e A>d");
    CHECK.due("two signs have one tree each", three.twin(2), "none");
    CHECK.due("three signs have two", three.twin(3), "ddd");
    String[] next = {"A>a A>B B>a", "A>aa A>B B>aa", "A>aaa A>B B>aaa"};
    for (int i = 0; i < 3; i++) {
      CHECK.due("the next length is not asked for", Check.grammar(next[i]).twin(i), "none");
      CHECK.due("that length is", Check.grammar(next[i]).twin(i + 1), "aaa".substring(0, i + 1));
    }
    Used empty = Check.grammar("A>B A>C B> C>");
    CHECK.due("of no sign", empty.twin(0), "");
    CHECK.due("with far more than two", Check.grammar(MILLION).twin(0), "");
    Used last = Check.grammar("A>eee A>eB B>ee A>aaa");
    CHECK.due("the last of all", last.twin(3), "eee");
    CHECK.due("with a ring", Check.grammar("A>B A>C B> C> A>A").twin(0), "none");
    CHECK.due("with a ring that is not useful", Check.grammar("A>B A>C B> C> D>D").twin(0), "");
    CHECK.due("two rules of what is not useful", Check.grammar("A>a B>a B>C C>a").twin(3), "none");
  }

  /** "the first TEXT .. that is a SENTENCE of just one of both" */
  private static void differences() {
    Used x = Check.grammar(ALL);
    CHECK.due("from a shelf without rules", x.differ(0), "");
    x.shelve();
    CHECK.due("from itself", x.differ(3), "none");
    x.drop(5);
    CHECK.due("none at all against all", x.differ(0), "");
    Check.add(x, "A>");
    x.drop(4);
    CHECK.due("one sign there alone", x.differ(0) + x.differ(1) + x.differ(3), "noneee");
    x.shelve();
    Check.add(x, "A>eee");
    CHECK.due("three signs here alone", x.differ(2) + x.differ(3), "noneeee");
    x.shelve();
    Check.add(x, "A>eeee");
    CHECK.due("four signs are too many", x.differ(3), "none");
    x.undo();
    x.undo();
    CHECK.due("the shelf is undone", x.differ(3), "eee");
    String[] next = {"A>a", "A>aa", "A>aaa", "A>aaaa"};
    for (int i = 0; i < 4; i++) {
      CHECK.due("the next length is not asked for", Check.grammar(next[i]).differ(i), "none");
    }
    Used both = Check.grammar("A>b");
    both.shelve();
    both.drop(0);
    Check.add(both, "A>a");
    CHECK.due("one of each: the first", both.differ(1), "a");
  }

  /** "(that by its own USEFUL RULES)" */
  private static void differencesByUsefulRules() {
    Used x = Check.grammar("A>a A>bB B>bB C>A C>c");
    x.shelve();
    for (int i = 0; i < 4; i++) {
      x.drop(1);
    }
    CHECK.due("the same by useful rules", x.differ(3), "none");
    Check.add(x, "A>bB");
    Check.add(x, "B>c");
    CHECK.due("useful here, not there", x.differ(2), "bc");
    x.shelve();
    x.drop(2);
    CHECK.due("useful there, not here", x.differ(2), "bc");
    Used hollow = Check.grammar("A>a");
    hollow.shelve();
    Check.add(hollow, "B>");
    Check.add(hollow, "E>");
    CHECK.due("not useful, but hollow", hollow.differ(3), "none");
    Used ring = Check.grammar("A>A A>a");
    ring.shelve();
    ring.drop(0);
    CHECK.due("a ring makes no other sentence", ring.differ(3), "none");
  }

  // ---- all of it

  private static void houses() {
    CHECK.due("empty", Check.house(new Used()), "0 0 0 0 0 0 -1 0 0");
    CHECK.due("full", Check.house(Check.full()), "10 10 10 8 10 1 10 26 1");
    Used x = typed("A>aA A>b B>b", "ab");
    x.begin(1);
    CHECK.due("begun", Check.house(x), "3 2 2 3 0 1 0 0 0");
    x.step();
    CHECK.due("one step", Check.house(x), "3 2 2 3 0 1 1 1 0");
    x.say(5, -1, -1, -1, -1, -1);
    CHECK.due("no reading", Check.house(x), "3 2 0 3 0 0 -1 0 0");
  }

  /** "if the table is there, has no CLASH, and nothing of it is SETTLED" */
  private static void sound() {
    String[] all = {"", "A>", "A>a", "A>aA", "A>A A>", "A>AA A>a", "A>AA A>A A>", "A>B A>C B>a C>a",
        ALL, MILLION, ONE_LESS, "A>AcB A>C B>BdC B>C C>aCb C>bE E>aE E>a C>caaa"};
    for (String rules : all) {
      CHECK.due("sound: " + rules, Check.grammar(rules).isSound(), true);
    }
    CHECK.due("sound: full", Check.full().isSound(), true);
    Used x = Check.grammar("A>AbA A>a");
    for (int side = 0; side < 3; side++) {
      x.rank(1, 1, side);
      CHECK.due("settled, so it need not read all", x.isSound(), true);
    }
    Used y = Check.grammar("A>Aa A>a A>B B>a");
    CHECK.due("two trees, but a clash", y.isSound(), true);
  }

  /** "of which read() would not tell ENDLESS" */
  /** "and nothing of it is SETTLED": a table may then read what is no sentence's, or none of two trees. */
  private static void soundIfSettled() {
    Used wrong = Check.grammar("A>a A>aB B>a");
    wrong.rank(0, 1, 0);
    CHECK.due("kind 0 has no clash", wrong.clashes(0) + " " + wrong.ofTable(0, 0), "0 1");
    CHECK.due("and refuses a sentence", Check.type(wrong, "aa").read(0), -101);
    CHECK.due("is settled", wrong.isSound(), true);
    Used two = Check.grammar("A>Aa A>aA A>a");
    two.rank(0, 1, 0);
    for (int kind = 1; kind < 4; kind++) {
      CHECK.due("no clash in " + kind, two.clashes(kind), 0);
      CHECK.due("settled in " + kind, two.ofTable(kind, 0) > 0, true);
    }
    CHECK.due("has two trees", two.twin(2), "aa");
    CHECK.due("is settled", two.isSound(), true);
  }

  private static void soundIfEndless() {
    Used x = Check.grammar("A>BBBB B>CCCC C>DDDD D>EEEE E>");
    CHECK.due("endless", x.read(0), -6);
    CHECK.due("but a sentence", x.trees(), 1);
    CHECK.due("sound", x.isSound(), true);
  }

  private static BigInteger mix(BigInteger d, long v) {
    return d.multiply(BigInteger.valueOf(31)).add(BigInteger.valueOf(v));
  }

  /** The checksum as a number that has no bound. */
  private static BigInteger unbound(Used x) {
    BigInteger d = ofGrammar(BigInteger.valueOf(6105), x);
    for (int kind = 0; kind < 4; kind++) {
      d = mix(d, x.states(kind));
      if (x.states(kind) != -5) {
        d = ofTable(d, x, kind);
      }
    }
    d = mix(mix(mix(d, x.pile().length()), x.tree().length()), x.value());
    d = mix(mix(d, x.derivation().length()), x.shared());
    d = mix(mix(mix(d, x.nexts(x.house(2))), x.mend()), x.trees());
    for (int length = 0; length <= 2; length++) {
      d = mix(d, x.sentences(length));
    }
    d = mix(mix(d, x.twin(2).length()), x.differ(2).length());
    return mix(d, x.isSound() ? 1 : 0);
  }

  private static BigInteger ofGrammar(BigInteger start, Used x) {
    BigInteger d = start;
    for (int what = 0; what <= 8; what++) {
      d = mix(d, x.house(what));
    }
    for (int rule = 0; rule < x.house(0); rule++) {
      for (int what = 0; what <= 4; what++) {
        d = mix(d, x.ofRule(rule, what));
      }
    }
    for (int variable = 0; variable < 5; variable++) {
      for (int what = 0; what <= 5; what++) {
        d = mix(d, x.ofVariable(variable, what));
      }
      d = mix(d, x.shortest(variable).length());
    }
    return mix(d, x.hasRing() ? 1 : 0);
  }

  private static BigInteger ofTable(BigInteger start, Used x, int kind) {
    BigInteger d = mix(start, x.clashes(kind));
    for (int what = 0; what <= 2; what++) {
      d = mix(d, x.ofTable(kind, what));
    }
    for (int state = 0; state < x.states(kind); state++) {
      d = mix(d, x.state(kind, state).length());
      for (int sign = 0; sign <= 5; sign++) {
        d = mix(d, x.action(kind, state, sign));
      }
      d = mix(d, x.beginning(kind, state).length());
    }
    return d;
  }

  /** "A number d starts with 6105": for the empty object all that follows is known. */
  private static void digestStarts() {
    BigInteger d = BigInteger.valueOf(6105);
    int[] house = {0, 0, 0, 0, 0, 0, -1, 0, 0};
    for (int v : house) {
      d = mix(d, v);
    }
    for (int variable = 0; variable < 5; variable++) {
      int[] all = {0, 0, 0, 0, variable == 0 ? 32 : 0, 0, "none".length()};
      for (int v : all) {
        d = mix(d, v);
      }
    }
    d = mix(d, 0);
    for (int kind = 0; kind < 4; kind++) {
      int looks = kind == 3 ? 2 : 0;
      int[] all = {2, 0, 0, 2, 1, 4 + looks, -1, -1, -1, -1, -1, -1, 0, 4 + looks, -1, -1, -1, -1, -1, -2, 4};
      for (int v : all) {
        d = mix(d, v);
      }
    }
    int[] rest = {0, 0, -1, 0, 0, 0, -1, 0, 0, 0, 0, 4, 4, 1};
    for (int v : rest) {
      d = mix(d, v);
    }
    CHECK.due("digest of the empty object", new Used().digest(), d.longValue());
  }

  /** "which wraps around as a 64-bit integer" */
  private static void digestWraps() {
    int below = 0;
    int above = 0;
    for (int knocks = 0; knocks < 12; knocks++) {
      Used x = typed("A>aAb A>", "aabb");
      for (int i = 0; i < knocks; i++) {
        x.knock();
      }
      x.read(knocks % 3 + 1);
      BigInteger exact = unbound(x);
      long got = x.digest();
      CHECK.due("it does not fit", exact.bitLength() > 64, true);
      CHECK.due("wrapped around", got, exact.longValue());
      below += got < 0 ? 1 : 0;
      above += got >= 0 ? 1 : 0;
    }
    CHECK.due("some are below 0, and some are not", below > 0 && above > 0, true);
    CHECK.due("full", Check.full().digest(), unbound(Check.full()).longValue());
    Used empty = new Used();
    CHECK.due("empty", empty.digest(), unbound(new Used()).longValue());
    CHECK.due("the same twice", empty.digest(), empty.digest());
  }

  /** "KIND by KIND states(), and, if that is not MANY, .." */
  private static void digestOfManyStates() {
    Used x = Check.grammar("A>AcB A>C B>BdC B>C C>aCb C>bE E>aE E>a C>caaa");
    CHECK.due("the states are too many", x.states(2) + x.states(3), -10);
    CHECK.due("digest", x.digest(), unbound(x).longValue());
    Used ring = Check.grammar("A>A A>");
    CHECK.due("digest with a ring", ring.digest(), unbound(ring).longValue());
    // What has three signs, or more, is not asked for.
    Used three = Check.grammar("A>AA A>a");
    three.shelve();
    Check.add(three, "A>bbb");
    CHECK.due("twin and differ of 3", three.twin(3) + three.differ(3), "aaabbb");
    CHECK.due("digest of 2 signs", three.digest(), unbound(three).longValue());
    Used two = Check.grammar("A>B B>aa A>aa");
    CHECK.due("twin and differ of 2", two.twin(2) + two.differ(2), "aaaa");
    CHECK.due("digest of 2 signs", two.digest(), unbound(two).longValue());
    Used million = Check.grammar(MILLION + " A>");
    CHECK.due("digest with more than a million", million.digest(), unbound(million).longValue());
  }
}
