/** Promises 16 to 20 and 37 to 46: what is asked of the grammar, of texts, and of all. */
public final class AskingTest {
  private static final Class<?> ARGUMENT = IllegalArgumentException.class;
  private static final Class<?> INDEX = IndexOutOfBoundsException.class;
  private static final Check CHECK = new Check("AskingTest");
  private static final String SUMS = "A>AcB A>B B>BdC B>C C>aAb C>e";

  public static void main(String[] args) {
    promise16();
    promise17();
    promise18();
    promise19();
    promise20();
    promise37();
    promise38();
    promise39();
    promise40();
    promise41();
    promise42();
    promise43();
    promise44();
    promise45();
    promise46();
    CHECK.end();
  }

  private static void promise16() {
    Used x = Check.grammar("A>aBb B> E>EDCA C>bcde");
    CHECK.due("text(0)", x.text(0), "A>aBb");
    CHECK.due("text(1)", x.text(1), "B>");
    CHECK.due("text(2)", x.text(2), "E>EDCA");
    CHECK.due("text(3)", x.text(3), "C>bcde");
    CHECK.fails("text(4)", INDEX, x, () -> x.text(4));
    CHECK.fails("text(-1)", INDEX, x, () -> x.text(-1));
  }

  private static void promise17() {
    Used x = Check.grammar("A>Ba B>bAA B> C>cD A>D");
    x.rank(0, 4, 0);
    x.rank(1, 7, 0);
    x.act(1, 2);
    int[][] due = {{0, 2, 0, 4, 1}, {1, 3, 2, 7, 1}, {1, 0, 0, 0, 1}, {2, 2, 0, 0, 0}, {0, 1, 0, 0, 0}};
    for (int rule = 0; rule < 5; rule++) {
      for (int what = 0; what < 5; what++) {
        CHECK.due("ofRule(" + rule + ", " + what + ")", x.ofRule(rule, what), due[rule][what]);
      }
    }
    CHECK.fails("ofRule(5, 9)", INDEX, x, () -> x.ofRule(5, 9));
    CHECK.fails("ofRule(-1, 0)", INDEX, x, () -> x.ofRule(-1, 0));
    CHECK.fails("ofRule(0, 5)", ARGUMENT, x, () -> x.ofRule(0, 5));
    CHECK.fails("ofRule(0, -1)", ARGUMENT, x, () -> x.ofRule(0, -1));
  }

  private static void promise18() {
    // C grows, but is not reached; D does not grow; E has no rule.
    Used x = Check.grammar("A>BaA A>B B>b B> C>cC C> D>dD A>D A>EC");
    int[][] due = {{1, 1, 1, 3, 32, 4}, {1, 1, 1, 2, 33, 2}, {1, 0, 0, 0, 0, 2}, {0, 0, 0, 0, 0, 1},
        {0, 0, 0, 0, 0, 0}};
    for (int variable = 0; variable < 5; variable++) {
      for (int what = 0; what < 6; what++) {
        String call = "ofVariable(" + variable + ", " + what + ")";
        CHECK.due(call, x.ofVariable(variable, what), due[variable][what]);
      }
    }
    Used chain = Check.grammar("A>BCa B>CC C>D D> D>d E>e C>cE");
    CHECK.due("FIRST through hollow ones", chain.ofVariable(0, 3), 1 + 4 + 8);
    CHECK.due("FOLLOW through hollow ones", chain.ofVariable(3, 4), 1 + 4 + 8);
    CHECK.due("FOLLOW of the last", chain.ofVariable(4, 4), 1 + 4 + 8);
    Used none = Check.grammar("A>aA");
    CHECK.due("A always has END", none.ofVariable(0, 4), 32);
    CHECK.due("A does not grow", none.ofVariable(0, 1), 0);
    Used inner = Check.grammar("A>AbB A>a B>A");
    CHECK.due("FOLLOW of A", inner.ofVariable(0, 4), 34);
    CHECK.fails("ofVariable(5, 9)", ARGUMENT, x, () -> x.ofVariable(5, 9));
    CHECK.fails("ofVariable(-1, 0)", ARGUMENT, x, () -> x.ofVariable(-1, 0));
    CHECK.fails("ofVariable(0, 6)", ARGUMENT, x, () -> x.ofVariable(0, 6));
    CHECK.fails("ofVariable(0, -1)", ARGUMENT, x, () -> x.ofVariable(0, -1));
  }

  private static void promise19() {
    Used x = Check.grammar("A>BB A>aaae B>CC C>d C>c D>d A>bE E>");
    CHECK.due("shortest(0)", x.shortest(0), "b");
    CHECK.due("shortest(1)", x.shortest(1), "cc");
    CHECK.due("shortest(2)", x.shortest(2), "c");
    CHECK.due("not reached", x.shortest(3), "none");
    CHECK.due("empty", x.shortest(4), "");
    x.drop(6);
    CHECK.due("as in a dictionary", x.shortest(0), "aaae");
    Used four = Check.grammar("A>BBBB B>CCCC C>DDDD D>EEEE E>aaab E>aaba");
    CHECK.due("a long one", four.shortest(0), "aaab".repeat(256));
    CHECK.due("does not grow", Check.grammar("A>A").shortest(0), "none");
    CHECK.fails("shortest(5)", ARGUMENT, x, () -> x.shortest(5));
    CHECK.fails("shortest(-1)", ARGUMENT, x, () -> x.shortest(-1));
  }

  private static void promise20() {
    ring("A>a", false);
    ring("A>A A>a", true);
    ring("A>aA A>", false);
    ring("A>BAB A>a B>", true);
    ring("A>BAB A>a B>b", false);
    ring("A>B B>C C>A A>a", true);
    ring("A>B B>C C>a", false);
    ring("A>AA A> A>a", true);
    ring("A>AA A>a", false);
    // The ring is not of use, or does not grow.
    ring("A>a B>B B>b", false);
    ring("A>a A>B B>B", false);
  }

  private static void ring(String rules, boolean due) {
    CHECK.due("hasRing of " + rules, Check.grammar(rules).hasRing(), due);
  }

  private static void promise37() {
    Used x = Check.type(Check.grammar(SUMS), "ecaebd");
    int[] due = {17, 44, 17, 17, 14, 44, 17};
    for (int place = 0; place < 7; place++) {
      CHECK.due("nexts(" + place + ")", x.nexts(place), due[place]);
    }
    x.alter(1, 4);
    CHECK.due("no sentence begins so", x.nexts(2), 0);
    CHECK.due("and none after it", x.nexts(5), 0);
    CHECK.due("before it some do", x.nexts(1), 44);
    Used ring = Check.type(Check.grammar("A>AA A> A>a B>b"), "aa");
    CHECK.due("with a ring", ring.nexts(2), 33);
    Used hollow = Check.type(Check.grammar("A>BCBd B> B>b C> C>c"), "bb");
    CHECK.due("behind hollow ones", hollow.nexts(0), 14);
    CHECK.due("in the middle", hollow.nexts(1), 14);
    CHECK.due("behind both", hollow.nexts(2), 8);
    Used dead = Check.grammar("A>aB A>b B>bB");
    CHECK.due("not what comes to nothing", dead.nexts(0), 2);
    CHECK.due("the empty grammar", new Used().nexts(0), 0);
    CHECK.fails("nexts(7)", INDEX, x, () -> x.nexts(7));
    CHECK.fails("nexts(-1)", INDEX, x, () -> x.nexts(-1));
  }

  private static void promise38() {
    mend("A>aAb A>", "", 0);
    mend("A>aAb A>", "aabb", 0);
    mend("A>aAb A>", "aab", 1);
    mend("A>aAb A>", "ba", 2);
    mend("A>aAb A>", "acbc", 2);
    mend("A>aAb A>", "bbbbbaaaaa", 10);
    mend("A>abcd", "", 4);
    mend("A>abcd", "dcba", 6);
    mend("A>abcd", "eeeeeeeeee", 14);
    mend(SUMS, "ee", 1);
    mend(SUMS, "aab", 2);
    mend("A>AA A>a A>", "bab", 2);
    mend("A>BBBB B>CCCC C>DDDD D>EEEE E>aaaa", "aaaaa", 1019);
    mend("A>aA", "", -1);
    mend("", "abc", -1);
  }

  private static void mend(String rules, String text, int due) {
    CHECK.due("mend of " + text + " by " + rules, Check.type(Check.grammar(rules), text).mend(), due);
  }

  private static void promise39() {
    trees("A>AA A>a", "", 0);
    trees("A>AA A>a", "a", 1);
    trees("A>AA A>a", "aaa", 2);
    trees("A>AA A>a", "aaaaaaaaaa", 4862);
    trees("A>AA A>AAA A>a", "aaaaaaaaaa", 59345);
    trees("A>AA A>a", "aab", 0);
    trees("A>BAa A>BB B> B>b", "", 1);
    trees("A>BAa A>BB B> B>b", "bb", 1);
    trees("A>BAa A>BB B> B>b", "ba", 3);
    trees("A>A A>a", "a", -7);
    trees("A>A A>a", "b", -7);
    trees("A>a B>B B>b", "a", 1);
    // Four ways for each sign: 4^9 is few enough, 4^10 is too many.
    trees("A>BA A>B B>a B>C B>D C>a D>a D>C", "aaaaaaaaa", 262144);
    trees("A>BA A>B B>a B>C B>D C>a D>a D>C", "aaaaaaaaaa", -5);
    trees("A>BA A> B>a B>C B>D B>E C>a C>D D>a E>a", "aaaaaaaaaa", -5);
  }

  private static void trees(String rules, String text, int due) {
    CHECK.due("trees of " + text + " by " + rules, Check.type(Check.grammar(rules), text).trees(), due);
  }

  private static void promise40() {
    Used x = Check.grammar("A>aA A>bA A>cA A>dA A>eA A>");
    int[] due = {1, 5, 25, 125};
    for (int length = 0; length < 4; length++) {
      CHECK.due("sentences(" + length + ")", x.sentences(length), due[length]);
    }
    Used y = Check.grammar("A>AA A>a A>bcd A>e");
    CHECK.due("no empty one", y.sentences(0), 0);
    CHECK.due("one sign", y.sentences(1), 2);
    CHECK.due("two signs", y.sentences(2), 4);
    CHECK.due("three signs", y.sentences(3), 9);
    CHECK.fails("sentences(-1)", ARGUMENT, y, () -> y.sentences(-1));
    CHECK.fails("sentences(4)", ARGUMENT, y, () -> y.sentences(4));
    Used ring = Check.grammar("A>AA A> A>A A>c");
    CHECK.due("each once, with a ring too", ring.sentences(3), 1);
  }

  private static void promise41() {
    Used x = Check.grammar("A>e A>ba A>ab A>B B> B>ccc B>dddd A>c");
    String[] due = {"", "c", "e", "ab", "ba", "ccc", "none", "none"};
    for (int nth = 0; nth < due.length; nth++) {
      CHECK.due("sentence(" + nth + ")", x.sentence(nth), due[nth]);
    }
    CHECK.due("far off", x.sentence(Integer.MAX_VALUE), "none");
    CHECK.fails("sentence(-1)", ARGUMENT, x, () -> x.sentence(-1));
    Used all = Check.grammar("A>aA A>bA A>cA A>dA A>eA A>");
    CHECK.due("the last of all", all.sentence(155), "eee");
    CHECK.due("one more", all.sentence(156), "none");
  }

  private static void promise42() {
    Used x = Check.grammar("A>AA A>a A>b");
    CHECK.due("twin(2)", x.twin(2), "none");
    CHECK.due("twin(3)", x.twin(3), "aaa");
    Used y = Check.grammar("A>cB A>Cd B>d C>c A>B B>e A>e");
    CHECK.due("twin(0)", y.twin(0), "none");
    CHECK.due("twin(1)", y.twin(1), "e");
    CHECK.due("twin(3)", y.twin(3), "e");
    y.drop(6);
    CHECK.due("twin(2)", y.twin(2), "cd");
    Used empty = Check.grammar("A>B A> B>");
    CHECK.due("the empty one", empty.twin(0), "");
    Used ring = Check.grammar("A>A A>a");
    CHECK.due("with a ring", ring.twin(3), "none");
    CHECK.fails("twin(4)", ARGUMENT, ring, () -> ring.twin(4));
    CHECK.fails("twin(-1)", ARGUMENT, ring, () -> ring.twin(-1));
  }

  private static void promise43() {
    Used x = Check.grammar("A>aAb A> B>b");
    CHECK.due("from nothing", x.differ(0), "");
    x.shelve();
    CHECK.due("from itself", x.differ(3), "none");
    Check.add(x, "A>B");
    CHECK.due("one more here", x.differ(0), "none");
    CHECK.due("one more here", x.differ(3), "b");
    x.shelve();
    x.drop(3);
    CHECK.due("one more there", x.differ(1), "b");
    Check.add(x, "A>b");
    CHECK.due("other rules, the same sentences", x.differ(3), "none");
    Check.add(x, "A>bCc");
    CHECK.due("a rule that is not useful", x.differ(3), "none");
    Check.add(x, "C>d");
    CHECK.due("three signs", x.differ(3), "bdc");
    CHECK.due("two signs", x.differ(2), "none");
    CHECK.fails("differ(4)", ARGUMENT, x, () -> x.differ(4));
    CHECK.fails("differ(-1)", ARGUMENT, x, () -> x.differ(-1));
  }

  private static void promise44() {
    Used x = Check.type(Check.grammar("A>aA A>b B>b"), "ab");
    CHECK.due("house", Check.house(x), "3 2 2 3 0 0 -1 0 0");
    x.shelve();
    x.drop(2);
    x.knock();
    x.begin(1);
    CHECK.due("house", Check.house(x), "2 2 2 5 3 1 0 0 1");
    x.step();
    CHECK.due("house", Check.house(x), "2 2 2 5 3 1 1 1 1");
    x.read(1);
    CHECK.due("house", Check.house(x), "2 2 2 5 3 1 2 5 1");
    x.undo();
    CHECK.due("house", Check.house(x), "3 2 2 4 3 0 -1 0 1");
    CHECK.fails("house(9)", ARGUMENT, x, () -> x.house(9));
    CHECK.fails("house(-1)", ARGUMENT, x, () -> x.house(-1));
  }

  private static void promise45() {
    String[] all = {"", SUMS, "A>AcA A>e", "A>A A>a", "A>aA", "A>BCD B> C> D>", "A>aA A>",
        "A>BBBB B>CC B> C>a C>bD D>BCc D>d C>eCE E>e E>Ed"};
    for (String rules : all) {
      CHECK.due("isSound of " + rules, Check.grammar(rules).isSound(), true);
    }
    Used settled = Check.grammar("A>AcA A>e");
    settled.rank(2, 1, 2);
    CHECK.due("settled", settled.isSound(), true);
    Check.type(settled, "eee").read(1);
    String before = Check.shown(settled);
    settled.isSound();
    CHECK.due("nothing is changed", Check.shown(settled), before);
  }

  private static void promise46() {
    digest(new Used());
    digest(Check.type(Check.grammar(SUMS), "ece"));
    Used x = Check.type(Check.grammar("A>aAb A> B>b"), "aabb");
    x.rank(0, 3, 1);
    x.act(0, 2);
    x.shelve();
    digest(x);
    x.read(3);
    digest(x);
    x.read(1);
    digest(x);
    x.knock();
    x.drop(1);
    digest(x);
    digest(Check.grammar("A>BBBB B>CC B> C>a C>bD D>BCc D>d C>eCE E>e E>Ed"));
    digest(Check.grammar("A>A A>a"));
  }

  private static long mix(long d, long v) {
    return d * 31 + v;
  }

  private static void digest(Used x) {
    long d = 6105;
    for (int what = 0; what <= 8; what++) d = mix(d, x.house(what));
    for (int rule = 0; rule < x.house(0); rule++) {
      for (int what = 0; what <= 4; what++) d = mix(d, x.ofRule(rule, what));
    }
    for (int variable = 0; variable < 5; variable++) {
      for (int what = 0; what <= 5; what++) d = mix(d, x.ofVariable(variable, what));
      d = mix(d, x.shortest(variable).length());
    }
    d = mix(d, x.hasRing() ? 1 : 0);
    for (int kind = 0; kind < 4; kind++) {
      d = mix(d, x.states(kind));
      if (x.states(kind) == -5) continue;
      d = mix(d, x.clashes(kind));
      for (int what = 0; what <= 2; what++) d = mix(d, x.ofTable(kind, what));
      for (int state = 0; state < x.states(kind); state++) {
        d = mix(d, x.state(kind, state).length());
        for (int sign = 0; sign <= 5; sign++) d = mix(d, x.action(kind, state, sign));
        d = mix(d, x.beginning(kind, state).length());
      }
    }
    d = mix(mix(mix(d, x.pile().length()), x.tree().length()), x.value());
    d = mix(mix(d, x.derivation().length()), x.shared());
    d = mix(mix(mix(d, x.nexts(x.house(2))), x.mend()), x.trees());
    for (int length = 0; length <= 2; length++) d = mix(d, x.sentences(length));
    d = mix(mix(d, x.twin(2).length()), x.differ(2).length());
    d = mix(d, x.isSound() ? 1 : 0);
    CHECK.due("digest of " + Check.rules(x), x.digest(), d);
  }
}
