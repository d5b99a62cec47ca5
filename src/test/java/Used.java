import java.util.ArrayList;
import java.util.List;

/**
 * A Tablemaker that no test uses for more than 512 calls, as nothing is promised beyond these:
 * then a new one takes its place, on which all that changed something is done once more.
 */
public final class Used {
  private static final int MOST_CALLS = 512;

  private interface Changing {
    Object on(Tablemaker x);
  }

  private final List<Changing> done = new ArrayList<>();
  private Tablemaker now = new Tablemaker();
  private int calls;

  private Tablemaker next() {
    if (calls == MOST_CALLS) {
      now = new Tablemaker();
      for (Changing one : done) {
        one.on(now);
      }
      calls = done.size();
    }
    if (calls >= MOST_CALLS) {
      throw new Error("a test changes one object too often");
    }
    calls++;
    return now;
  }

  /** What throws changes nothing, and is not done once more. */
  private int change(Changing one) {
    int answer = (Integer) one.on(next());
    done.add(one);
    return answer;
  }

  public int rule(int left, int many, int a, int b, int c, int d) {
    return change(x -> x.rule(left, many, a, b, c, d));
  }

  public int drop(int rule) {
    return change(x -> x.drop(rule));
  }

  public int act(int rule, int act) {
    return change(x -> x.act(rule, act));
  }

  public int rank(int sign, int rank, int side) {
    return change(x -> x.rank(sign, rank, side));
  }

  public int needless() {
    return change(x -> x.needless());
  }

  public int turn(int variable) {
    return change(x -> x.turn(variable));
  }

  public int shelve() {
    return change(x -> x.shelve());
  }

  public int undo() {
    return change(x -> x.undo());
  }

  public int knock() {
    return change(x -> x.knock());
  }

  public int say(int a, int b, int c, int d, int e, int f) {
    return change(x -> x.say(a, b, c, d, e, f));
  }

  public int alter(int place, int sign) {
    return change(x -> x.alter(place, sign));
  }

  public int begin(int kind) {
    return change(x -> x.begin(kind));
  }

  public int step() {
    return change(x -> x.step());
  }

  public int read(int kind) {
    return change(x -> x.read(kind));
  }

  public String text(int rule) {
    return next().text(rule);
  }

  public int ofRule(int rule, int what) {
    return next().ofRule(rule, what);
  }

  public int ofVariable(int variable, int what) {
    return next().ofVariable(variable, what);
  }

  public String shortest(int variable) {
    return next().shortest(variable);
  }

  public boolean hasRing() {
    return next().hasRing();
  }

  public int states(int kind) {
    return next().states(kind);
  }

  public String state(int kind, int state) {
    return next().state(kind, state);
  }

  public int action(int kind, int state, int sign) {
    return next().action(kind, state, sign);
  }

  public int goes(int kind, int state, int variable) {
    return next().goes(kind, state, variable);
  }

  public int looks(int kind, int state, int rule) {
    return next().looks(kind, state, rule);
  }

  public int clashes(int kind) {
    return next().clashes(kind);
  }

  public int clash(int kind, int nth, int what) {
    return next().clash(kind, nth, what);
  }

  public String beginning(int kind, int state) {
    return next().beginning(kind, state);
  }

  public int ofTable(int kind, int what) {
    return next().ofTable(kind, what);
  }

  public String pile() {
    return next().pile();
  }

  public int stepAt(int nth) {
    return next().stepAt(nth);
  }

  public String tree() {
    return next().tree();
  }

  public int value() {
    return next().value();
  }

  public String derivation() {
    return next().derivation();
  }

  public int shared() {
    return next().shared();
  }

  public String typed() {
    return next().typed();
  }

  public int nexts(int place) {
    return next().nexts(place);
  }

  public int mend() {
    return next().mend();
  }

  public int trees() {
    return next().trees();
  }

  public int sentences(int length) {
    return next().sentences(length);
  }

  public String sentence(int nth) {
    return next().sentence(nth);
  }

  public String twin(int length) {
    return next().twin(length);
  }

  public String differ(int length) {
    return next().differ(length);
  }

  public int house(int what) {
    return next().house(what);
  }

  public boolean isSound() {
    return next().isSound();
  }

  public long digest() {
    return next().digest();
  }
}
