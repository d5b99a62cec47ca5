import java.lang.reflect.InvocationTargetException;
import java.lang.reflect.Method;
import java.util.ArrayList;
import java.util.Arrays;
import java.util.List;
import java.util.Random;

/** Long runs of calls of all kinds, each answer held against that of Reference. */
public final class ReferenceTest {
  // Grammars that are known to be of one kind and not of another, and some with traps.
  private static final String[] SEEDS = {
    "A>AcB A>B B>BdC B>C C>aAb C>e",
    "A>AcA A>AdA A>e",
    "A>aBd A>bCd A>aCe A>bBe B>c C>c",
    "A>BB B>aB B>b",
    "A>BcC A>C B>dC B>a C>B",
    "A>aAb A>",
    "A>aA A>Aa A>a",
    "A>BA A> B>a B>",
    "A>A A>a",
    "A>BCD B>a B> C>b C> D>c D>",
    "A>aAa A>bAb A>",
    "A>aBcA A>aBdA A>aB A>b B>e",
    "A>BBBB B>CCCC C>DDDD D>EEEE E>aaaa",
    "A>AA A>a A>",
    "A>Aab A>Ac A>d B>Bb B>a",
    "A>BAe A>c B>",
    "A>aA",
    "A>aaaA A>aaA A>aaaa A>b",
    "A>BC B>CA B>b C>AB C>a",
    "A>Bb A>Cc B>aB B>a C>aC C>a",
    // Many states without looks, and long beginnings.
    "E>abae E>dBAB C>dEed A>aeA E>BDBC B>dddA A>dDE D>dddC E>d B>BdBC",
    "E>BBBB A>DaC A>DDDD C>EEEE B>BA B>AaB B>CCCC A>AEc B>AAAA D>dade",
    // Just 40 and 41 states with looks.
    "A>AcB A>B B>BeC B>C C>aAa C>e C>bE E>aE E>c C>caaa",
    "A>AcB A>C B>BdC B>C C>aCb C>bE E>aE E>a C>caaa",
  };

  private static final String[] NAMES = {"rule", "drop", "act", "rank", "needless", "turn", "shelve",
    "undo", "knock", "say", "alter", "begin", "step", "read", "text", "ofRule", "ofVariable",
    "shortest", "hasRing", "states", "state", "action", "goes", "looks", "clashes", "clash",
    "beginning", "ofTable", "pile", "stepAt", "tree", "value", "derivation", "shared", "typed",
    "nexts", "mend", "trees", "sentences", "sentence", "twin", "differ", "house", "isSound"};

  private final Random random;
  private final Used one = new Used();
  private final Reference other = new Reference();
  private final StringBuilder story = new StringBuilder();
  private int calls;

  private ReferenceTest(long seed) {
    random = new Random(seed);
  }

  private static Method find(Class<?> type, String name) {
    for (Method m : type.getDeclaredMethods()) {
      if (m.getName().equals(name) && java.lang.reflect.Modifier.isPublic(m.getModifiers())) {
        m.setAccessible(true);
        return m;
      }
    }
    throw new IllegalStateException(name);
  }

  private static Object answer(Object on, String name, Object[] args) throws Exception {
    try {
      return find(on.getClass(), name).invoke(on, args);
    } catch (InvocationTargetException e) {
      return "throws." + e.getCause().getClass().getSimpleName();
    }
  }

  private void call(String name, Object... args) throws Exception {
    calls++;
    story.append(name).append(Arrays.toString(args)).append('\n');
    Object got = answer(one, name, args);
    Object due = answer(other, name, args);
    if (!got.equals(due)) {
      throw new IllegalStateException(story + "answered " + got + ", due is " + due);
    }
  }

  private int wild(int most) {
    if (random.nextInt(60) == 0) {
      return random.nextBoolean() ? Integer.MAX_VALUE : Integer.MIN_VALUE;
    }
    return random.nextInt(12) == 0 ? random.nextInt(2 * most + 6) - most - 2 : random.nextInt(most + 1);
  }

  private Object[] argsOf(String name) {
    int states = random.nextInt(4) == 0 ? 40 : 8;
    switch (name) {
      case "rule": {
        int left = random.nextInt(3) == 0 ? wild(4) : random.nextInt(3);
        Object[] out = {left, wild(4), 0, 0, 0, 0};
        for (int i = 2; i < 6; i++) out[i] = random.nextInt(3) == 0 ? wild(9) : random.nextInt(8);
        return out;
      }
      case "say": {
        Object[] out = new Object[6];
        for (int i = 0; i < 6; i++) out[i] = random.nextInt(2) == 0 ? -1 : random.nextInt(20) == 0 ? wild(7) : random.nextInt(7);
        return out;
      }
      case "act": return new Object[] {wild(9), wild(3)};
      case "rank": return new Object[] {wild(4), random.nextBoolean() ? wild(3) : wild(9), wild(2)};
      case "alter": return new Object[] {wild(9), wild(4)};
      case "ofRule": return new Object[] {wild(9), wild(4)};
      case "ofVariable": return new Object[] {wild(4), wild(5)};
      case "state": case "beginning": return new Object[] {wild(3), wild(states)};
      case "action": case "goes": return new Object[] {wild(3), wild(states), wild(5)};
      case "looks": return new Object[] {wild(3), wild(states), wild(9)};
      case "clash": return new Object[] {wild(3), wild(6), wild(4)};
      case "ofTable": return new Object[] {wild(3), wild(2)};
      case "drop": case "text": return new Object[] {wild(9)};
      case "turn": case "shortest": return new Object[] {wild(4)};
      case "begin": case "read": case "states": case "clashes": return new Object[] {wild(3)};
      case "sentences": case "twin": case "differ": return new Object[] {wild(3)};
      case "stepAt": return new Object[] {wild(20)};
      case "nexts": return new Object[] {wild(10)};
      case "sentence": return new Object[] {wild(30)};
      case "house": return new Object[] {wild(8)};
      default: return new Object[0];
    }
  }

  private void plant(String grammar) throws Exception {
    for (String r : grammar.split(" ")) {
      Object[] args = {r.charAt(0) - 'A', r.length() - 2, 0, 0, 0, 0};
      for (int i = 2; i < r.length(); i++) args[i] = "abcdeABCDE".indexOf(r.charAt(i));
      call("rule", args);
    }
  }

  private String randomGrammar() {
    List<String> out = new ArrayList<>();
    int many = 2 + random.nextInt(9);
    int variables = 1 + random.nextInt(4);
    int signs = 1 + random.nextInt(5);
    for (int i = 0; i < many; i++) {
      StringBuilder b = new StringBuilder();
      b.append((char) ('A' + (i == 0 ? 0 : random.nextInt(variables)))).append('>');
      int length = random.nextInt(5) == 0 ? 0 : 1 + random.nextInt(random.nextInt(3) == 0 ? 4 : 3);
      for (int j = 0; j < length; j++) {
        b.append(random.nextInt(5) < 2 ? (char) ('A' + random.nextInt(variables)) : (char) ('a' + random.nextInt(signs)));
      }
      if (!out.contains(b.toString())) out.add(b.toString());
    }
    return String.join(" ", out);
  }

  /** All that there is to ask of the tables and texts at this moment. */
  private void askAll() throws Exception {
    for (int r = 0; r < one.house(0); r++) {
      call("text", r);
      for (int i = 0; i < 5; i++) call("ofRule", r, i);
    }
    for (int k = 0; k < 4; k++) {
      int states = one.states(k);
      for (int s = 0; s < states; s++) {
        call("state", k, s);
        call("beginning", k, s);
        for (int x = 0; x < 6; x++) call("action", k, s, x);
        for (int v = 0; v < 5; v++) call("goes", k, s, v);
        for (int r = 0; r < one.house(0); r++) call("looks", k, s, r);
      }
      int clashes = states < 0 ? 0 : one.clashes(k);
      for (int c = 0; c <= clashes; c++) for (int i = 0; i < 5; i++) call("clash", k, c, i);
      call("read", k);
      call("tree");
      call("value");
      call("derivation");
      call("pile");
      call("shared");
    }
    for (int v = 0; v < 5; v++) call("shortest", v);
    for (int p = 0; p <= one.house(2); p++) call("nexts", p);
    for (int n = 0; n < 4; n++) {
      call("sentences", n);
      call("twin", n);
      call("differ", n);
    }
    call("mend");
    call("trees");
    call("digest");
  }

  private void typeSomething() throws Exception {
    int signs = 1 + random.nextInt(5);
    call("say", 5, -1, -1, -1, -1, -1);
    int many = random.nextInt(11);
    if (random.nextInt(3) == 0) {
      String s = one.sentence(random.nextInt(8));
      for (char c : (s.equals("none") ? "" : s).toCharArray()) call("say", c - 'a', -1, -1, -1, -1, -1);
      return;
    }
    for (int i = 0; i < many; i++) call("say", random.nextInt(signs), -1, -1, -1, -1, -1);
  }

  private void run(int index) throws Exception {
    plant(index < 2 * SEEDS.length ? SEEDS[index % SEEDS.length] : randomGrammar());
    typeSomething();
    askAll();
    if (one.house(2) <= 3) {
      int tried = other.mendByTrying();
      int told = one.mend();
      if (tried < 3 ? told != tried : told != -1 && told < 3) {
        throw new IllegalStateException(story + "mend answered " + told + ", tried " + tried);
      }
    }
    for (int i = 0; i < 120; i++) {
      String name = NAMES[random.nextInt(NAMES.length)];
      call(name, argsOf(name));
      if (random.nextInt(25) == 0) typeSomething();
      if (random.nextInt(25) == 0) call("digest");
    }
  }

  public static void main(String[] args) throws Exception {
    Watch.over("ReferenceTest");
    int from = args.length > 1 ? Integer.parseInt(args[0]) : 0;
    int many = args.length > 1 ? Integer.parseInt(args[1]) : 150;
    long calls = 0;
    for (int i = from; i < from + many; i++) {
      ReferenceTest test = new ReferenceTest(i);
      try {
        test.run(i);
      } catch (IllegalStateException e) {
        System.out.println("run " + i + ":\n" + e.getMessage());
        System.exit(1);
      }
      calls += test.calls;
    }
    System.out.println(many + " runs, " + calls + " calls as the reference answers");
  }
}
