import java.math.BigInteger;
import java.util.ArrayList;
import java.util.Arrays;
import java.util.Collections;
import java.util.HashMap;
import java.util.HashSet;
import java.util.LinkedHashSet;
import java.util.List;
import java.util.Map;
import java.util.Set;
import java.util.TreeMap;
import java.util.TreeSet;

/**
 * The document once more, in the slowest and plainest way, on strings and the library's sets.
 * Nothing is kept from call to call but what the document says is held.
 */
final class Reference {
  static final class R {
    final char left;
    final String right;
    int act;

    R(char left, String right, int act) {
      this.left = left;
      this.right = right;
      this.act = act;
    }

    String show() {
      return left + ">" + right;
    }
  }

  /** One with these rules, written as texts. */
  static Reference of(String rules) {
    Reference out = new Reference();
    for (String rule : rules.split(" ")) {
      out.now.rules.add(new R(rule.charAt(0), rule.substring(2), 0));
      out.past.add(out.now.copy());
    }
    while (out.past.size() > 8) out.past.remove(0);
    return out;
  }

  static final class Held {
    List<R> rules = new ArrayList<>();
    int[] ranks = new int[5];
    int[] sides = new int[5];
    List<R> shelf = new ArrayList<>();

    Held copy() {
      Held h = new Held();
      h.rules = copyOf(rules);
      h.shelf = copyOf(shelf);
      h.ranks = ranks.clone();
      h.sides = sides.clone();
      return h;
    }
  }

  static List<R> copyOf(List<R> rules) {
    List<R> out = new ArrayList<>();
    for (R r : rules) {
      out.add(new R(r.left, r.right, r.act));
    }
    return out;
  }

  Held now = new Held();
  final List<Held> past = new ArrayList<>();
  String typed = "";
  int knocks;
  boolean there;
  int kind;
  int place;
  List<Integer> pile = new ArrayList<>();
  List<Integer> steps = new ArrayList<>();
  List<Integer> stepsBefore = new ArrayList<>();
  int begun;
  String end = "";

  static char sym(int s) {
    return "abcdeABCDE".charAt(s);
  }

  static boolean isVar(char c) {
    return c >= 'A' && c <= 'E';
  }

  static void iae(boolean bad) {
    if (bad) throw new IllegalArgumentException();
  }

  static void ise(boolean bad) {
    if (bad) throw new IllegalStateException();
  }

  static void ioobe(boolean bad) {
    if (bad) throw new IndexOutOfBoundsException();
  }

  void change() {
    past.add(now.copy());
    if (past.size() > 8) past.remove(0);
    there = false;
  }

  // ---- 1. grammars

  static Set<Character> growing(List<R> rules) {
    Set<Character> g = new HashSet<>();
    for (boolean more = true; more; ) {
      more = false;
      for (R r : rules) {
        boolean all = true;
        for (char c : r.right.toCharArray()) all &= !isVar(c) || g.contains(c);
        if (all) more |= g.add(r.left);
      }
    }
    return g;
  }

  static Set<Character> reached(List<R> rules) {
    Set<Character> g = growing(rules);
    Set<Character> reach = new HashSet<>();
    if (g.contains('A')) reach.add('A');
    for (boolean more = true; more; ) {
      more = false;
      for (R r : rules) {
        if (usefulBy(r, g, reach)) {
          for (char c : r.right.toCharArray()) if (isVar(c)) more |= reach.add(c);
        }
      }
    }
    return reach;
  }

  static boolean usefulBy(R r, Set<Character> g, Set<Character> reach) {
    boolean all = reach.contains(r.left);
    for (char c : r.right.toCharArray()) all &= !isVar(c) || g.contains(c);
    return all;
  }

  static List<R> useful(List<R> rules) {
    Set<Character> g = growing(rules);
    Set<Character> reach = reached(rules);
    List<R> out = new ArrayList<>();
    for (R r : rules) if (usefulBy(r, g, reach)) out.add(r);
    return out;
  }

  static Set<Character> hollow(List<R> use) {
    Set<Character> h = new HashSet<>();
    for (boolean more = true; more; ) {
      more = false;
      for (R r : use) {
        boolean all = true;
        for (char c : r.right.toCharArray()) all &= h.contains(c);
        if (all) more |= h.add(r.left);
      }
    }
    return h;
  }

  /** FIRST of a row that may end in a look (a to e, $). */
  static Set<Character> firstOf(List<R> use, String row) {
    Set<Character> h = hollow(use);
    Set<Character> seen = new HashSet<>();
    Set<Character> out = new TreeSet<>();
    List<String> todo = new ArrayList<>();
    todo.add(row);
    while (!todo.isEmpty()) {
      String s = todo.remove(todo.size() - 1);
      for (int i = 0; i < s.length(); i++) {
        char c = s.charAt(i);
        if (!isVar(c)) {
          out.add(c);
          break;
        }
        if (seen.add(c)) for (R r : use) if (r.left == c) todo.add(r.right);
        if (!h.contains(c)) break;
      }
    }
    return out;
  }

  static Map<Character, Set<Character>> follow(List<R> use) {
    Set<Character> h = hollow(use);
    Map<Character, Set<Character>> f = new HashMap<>();
    for (char c = 'A'; c <= 'E'; c++) f.put(c, new TreeSet<>());
    f.get('A').add('$');
    for (boolean more = true; more; ) {
      more = false;
      for (R r : use) {
        for (int i = 0; i < r.right.length(); i++) {
          if (!isVar(r.right.charAt(i))) continue;
          for (char l : f.get(r.left).toArray(new Character[0])) {
            more |= f.get(r.right.charAt(i)).addAll(firstOf(use, r.right.substring(i + 1) + l));
          }
        }
      }
    }
    return f;
  }

  static boolean ring(List<R> use) {
    Set<Character> h = hollow(use);
    for (char start = 'A'; start <= 'E'; start++) {
      Set<Character> seen = new HashSet<>();
      List<Character> todo = new ArrayList<>();
      todo.add(start);
      while (!todo.isEmpty()) {
        char v = todo.remove(0);
        for (R r : use) {
          if (r.left != v) continue;
          for (int i = 0; i < r.right.length(); i++) {
            boolean others = isVar(r.right.charAt(i));
            for (int j = 0; j < r.right.length(); j++) {
              others &= j == i || h.contains(r.right.charAt(j));
            }
            if (others) {
              if (r.right.charAt(i) == start) return true;
              if (seen.add(r.right.charAt(i))) todo.add(r.right.charAt(i));
            }
          }
        }
      }
    }
    return false;
  }

  static int order(String a, String b) {
    return a.length() != b.length() ? a.length() - b.length() : a.compareTo(b);
  }

  static Map<Character, String> shorts(List<R> use) {
    Map<Character, String> s = new HashMap<>();
    for (char c = 'a'; c <= 'e'; c++) s.put(c, "" + c);
    for (boolean more = true; more; ) {
      more = false;
      for (R r : use) {
        StringBuilder b = new StringBuilder();
        boolean all = true;
        for (char c : r.right.toCharArray()) {
          all &= s.containsKey(c);
          b.append(s.get(c));
        }
        if (all && (!s.containsKey(r.left) || order(b.toString(), s.get(r.left)) < 0)) {
          s.put(r.left, b.toString());
          more = true;
        }
      }
    }
    return s;
  }

  int rankOf(R r) {
    for (int i = r.right.length() - 1; i >= 0; i--) {
      if (!isVar(r.right.charAt(i))) return now.ranks[r.right.charAt(i) - 'a'];
    }
    return 0;
  }

  static int bits(Set<Character> set) {
    int b = 0;
    for (char c : set) b |= 1 << (c == '$' ? 5 : c - 'a');
    return b;
  }

  // ---- trees, by recursion with a memory

  /** Only for grammars without a ring: then nothing is asked while it is being counted. */
  static final class Counter {
    final List<R> use;
    final String text;
    final Set<String> in;
    final Map<String, BigInteger> known = new HashMap<>();

    Counter(List<R> use, String text) {
      this.use = use;
      this.text = text;
      this.in = parts(use, text);
    }

    boolean can(String row, int i, int j) {
      if (row.isEmpty()) return i == j;
      for (int m = i; m <= j; m++) if (canOne(row.charAt(0), i, m) && can(row.substring(1), m, j)) return true;
      return false;
    }

    boolean canOne(char c, int i, int j) {
      return isVar(c) ? in.contains(c + " " + i + " " + j) : j == i + 1 && text.charAt(i) == c;
    }

    BigInteger row(String row, int i, int j) {
      if (row.isEmpty()) return i == j ? BigInteger.ONE : BigInteger.ZERO;
      BigInteger sum = BigInteger.ZERO;
      for (int m = i; m <= j; m++) {
        if (canOne(row.charAt(0), i, m) && can(row.substring(1), m, j)) {
          sum = sum.add(one(row.charAt(0), i, m).multiply(row(row.substring(1), m, j)));
        }
      }
      return sum;
    }

    BigInteger one(char c, int i, int j) {
      if (!canOne(c, i, j)) return BigInteger.ZERO;
      if (!isVar(c)) return BigInteger.ONE;
      String key = c + " " + i + " " + j;
      if (!known.containsKey(key)) {
        BigInteger sum = BigInteger.ZERO;
        for (R r : use) if (r.left == c) sum = sum.add(row(r.right, i, j));
        known.put(key, sum);
      }
      return known.get(key);
    }
  }

  /** For each variable and part, whether the part comes of it. */
  static Set<String> parts(List<R> use, String text) {
    Set<String> in = new HashSet<>();
    for (boolean more = true; more; ) {
      more = false;
      for (R r : use) {
        for (int i = 0; i <= text.length(); i++) {
          Set<Integer> ends = new TreeSet<>(Arrays.asList(i));
          for (char c : r.right.toCharArray()) {
            Set<Integer> next = new TreeSet<>();
            for (int e : ends) {
              if (!isVar(c)) {
                if (e < text.length() && text.charAt(e) == c) next.add(e + 1);
              } else {
                for (int f = e; f <= text.length(); f++) if (in.contains(c + " " + e + " " + f)) next.add(f);
              }
            }
            ends = next;
          }
          for (int e : ends) more |= in.add(r.left + " " + i + " " + e);
        }
      }
    }
    return in;
  }

  static boolean isSentence(List<R> use, String text) {
    return parts(use, text).contains("A 0 " + text.length());
  }

  /** Whether some sentence begins with the text. */
  static boolean begins(List<R> use, String text) {
    if (use.isEmpty()) return false;
    if (text.isEmpty()) return true;
    Set<String> in = parts(use, text);
    int n = text.length();
    Set<String> pre = new HashSet<>();
    for (boolean more = true; more; ) {
      more = false;
      for (R r : use) {
        for (int i = 0; i < n; i++) {
          Set<Integer> ends = new TreeSet<>(Arrays.asList(i));
          boolean over = false;
          for (char c : r.right.toCharArray()) {
            Set<Integer> next = new TreeSet<>();
            for (int e : ends) {
              if (e == n) {
                over = true;
              } else if (!isVar(c)) {
                if (text.charAt(e) == c) next.add(e + 1);
              } else {
                over |= pre.contains(c + " " + e);
                for (int f = e; f <= n; f++) if (in.contains(c + " " + e + " " + f)) next.add(f);
              }
            }
            ends = next;
          }
          if (over || ends.contains(n)) more |= pre.add(r.left + " " + i);
        }
      }
    }
    return pre.contains("A 0");
  }

  static List<String> texts(int most) {
    List<String> out = new ArrayList<>();
    List<String> last = new ArrayList<>(Arrays.asList(""));
    for (int n = 0; n <= most; n++) {
      out.addAll(last);
      List<String> next = new ArrayList<>();
      for (String s : last) for (char c = 'a'; c <= 'e'; c++) next.add(s + c);
      last = next;
    }
    return out;
  }

  /** Dijkstra over (variable, part): what must be put in or taken out. */
  int mendCost() {
    List<R> use = useful(now.rules);
    int n = typed.length();
    int far = 1 << 28;
    Map<String, Integer> cost = new HashMap<>();
    for (boolean more = true; more; ) {
      more = false;
      for (R r : use) {
        for (int i = 0; i <= n; i++) {
          int[] at = new int[n + 1];
          for (int j = 0; j <= n; j++) at[j] = j < i ? far : j - i;
          for (char c : r.right.toCharArray()) {
            int[] next = new int[n + 1];
            Arrays.fill(next, far);
            for (int e = i; e <= n; e++) {
              if (at[e] >= far) continue;
              for (int f = e; f <= n; f++) {
                int more1 = isVar(c) ? cost.getOrDefault(c + " " + e + " " + f, far)
                    : typed.substring(e, f).indexOf(c) >= 0 ? f - e - 1 : f - e + 1;
                if (more1 < far) next[f] = Math.min(next[f], at[e] + more1);
              }
            }
            at = next;
          }
          for (int f = i; f <= n; f++) {
            String key = r.left + " " + i + " " + f;
            if (at[f] < cost.getOrDefault(key, far)) {
              cost.put(key, at[f]);
              more = true;
            }
          }
        }
      }
    }
    return cost.getOrDefault("A 0 " + n, NONE);
  }

  /** By trying all that two changes can make: up to 2, otherwise 3. */
  int mendByTrying() {
    List<R> use = useful(now.rules);
    Set<String> at = new LinkedHashSet<>(Arrays.asList(typed));
    Set<String> seen = new HashSet<>();
    for (int d = 0; d <= 2; d++) {
      Set<String> next = new LinkedHashSet<>();
      for (String s : at) {
        if (!seen.add(s)) continue;
        if (isSentence(use, s)) return d;
        for (int i = 0; i <= s.length(); i++) {
          for (char c = 'a'; c <= 'e'; c++) next.add(s.substring(0, i) + c + s.substring(i));
          if (i < s.length()) next.add(s.substring(0, i) + s.substring(i + 1));
        }
      }
      at = next;
    }
    return 3;
  }

  static final int NONE = -1;

  // ---- 2. tables: items are strings "A>a.B", with looks "A>a.B/x"

  final class Tables {
    final List<R> all = copyOf(now.rules);
    final List<R> use = useful(all);
    final List<Set<String>> states0 = build(false);
    final List<Set<String>> states3 = build(true);

    Set<String> closing(Set<String> kernel, boolean looks) {
      Set<String> out = new LinkedHashSet<>(kernel);
      List<String> todo = new ArrayList<>(kernel);
      while (!todo.isEmpty()) {
        String it = todo.remove(todo.size() - 1);
        String bare = it.split("/")[0];
        int dot = bare.indexOf('.');
        if (dot == bare.length() - 1 || !isVar(bare.charAt(dot + 1))) continue;
        for (R r : use) {
          if (r.left != bare.charAt(dot + 1)) continue;
          if (!looks) {
            String add = r.left + ">." + r.right;
            if (out.add(add)) todo.add(add);
          } else {
            for (char l : firstOf(use, bare.substring(dot + 2) + it.split("/")[1])) {
              String add = r.left + ">." + r.right + "/" + l;
              if (out.add(add)) todo.add(add);
            }
          }
        }
      }
      return out;
    }

    Set<String> move(Set<String> state, char over, boolean looks) {
      Set<String> out = new TreeSet<>();
      for (String it : closing(state, looks)) {
        int dot = it.indexOf('.');
        if (dot + 1 < it.length() && it.charAt(dot + 1) == over) {
          out.add(it.substring(0, dot) + over + "." + it.substring(dot + 2));
        }
      }
      return out;
    }

    /** Null, if there are more than 40 with looks. */
    List<Set<String>> build(boolean looks) {
      List<Set<String>> out = new ArrayList<>();
      out.add(new TreeSet<>(Arrays.asList(looks ? "S>.A/$" : "S>.A")));
      for (int s = 0; s < out.size(); s++) {
        for (int x = 0; x < 10; x++) {
          Set<String> m = move(out.get(s), sym(x), looks);
          if (!m.isEmpty() && !out.contains(m)) out.add(m);
          if (looks && out.size() > 40) return null;
        }
      }
      return out;
    }

    List<Set<String>> states(int kind) {
      return kind == 3 ? states3 : kind == 2 && states3 == null ? null : states0;
    }

    Set<String> core(Set<String> state) {
      Set<String> out = new TreeSet<>();
      for (String it : state) out.add(it.split("/")[0]);
      return out;
    }

    int go(int kind, int s, char over) {
      Set<String> m = move(states(kind).get(s), over, kind == 3);
      return m.isEmpty() ? NONE : states(kind).indexOf(m);
    }

    Set<Character> looksOf(int kind, int s, R r) {
      Set<Character> out = new TreeSet<>();
      String full = r.show() + ".";
      if (kind == 3) {
        for (String it : closing(states3.get(s), true)) {
          if (it.startsWith(full + "/")) out.add(it.charAt(it.length() - 1));
        }
      } else if (kind == 2) {
        for (int t = 0; t < states3.size(); t++) {
          if (core(states3.get(t)).equals(states0.get(s))) out.addAll(looksOf(3, t, r));
        }
      } else if (closing(states0.get(s), false).contains(full)) {
        if (kind == 0) {
          for (char c : "abcde$".toCharArray()) out.add(c);
        } else {
          out.addAll(follow(use).get(r.left));
        }
      }
      return out;
    }

    final Map<String, List<Integer>> actionsKnown = new HashMap<>();

    /** All actions, the shift first. */
    List<Integer> actions(int kind, int s, int sign) {
      String key = kind + " " + s + " " + sign;
      if (actionsKnown.containsKey(key)) return actionsKnown.get(key);
      List<Integer> out = new ArrayList<>();
      if (sign < 5 && go(kind, s, sym(sign)) != NONE) out.add(go(kind, s, sym(sign)));
      if (sign == 5 && core(states(kind).get(s)).contains("S>A.")) out.add(-2);
      for (int r = 0; r < all.size(); r++) {
        if (use.contains(all.get(r)) && looksKnown(kind, s, r).contains("abcde$".charAt(sign))) out.add(-10 - r);
      }
      actionsKnown.put(key, out);
      return out;
    }

    final Map<String, Set<Character>> looksKnown = new HashMap<>();

    Set<Character> looksKnown(int kind, int s, int r) {
      String key = kind + " " + s + " " + r;
      if (!looksKnown.containsKey(key)) looksKnown.put(key, looksOf(kind, s, all.get(r)));
      return looksKnown.get(key);
    }

    boolean settled(int kind, int s, int sign) {
      List<Integer> a = actions(kind, s, sign);
      return a.size() == 2 && a.get(0) >= 0 && now.ranks[sign] > 0 && rankOf(all.get(-10 - a.get(1))) > 0;
    }

    int action(int kind, int s, int sign) {
      List<Integer> a = actions(kind, s, sign);
      if (a.isEmpty()) return NONE;
      if (a.size() == 1) return a.get(0);
      if (!settled(kind, s, sign)) return -3;
      int rr = rankOf(all.get(-10 - a.get(1)));
      int rs = now.ranks[sign];
      if (rr > rs) return a.get(1);
      if (rr < rs) return a.get(0);
      return now.sides[sign] == 0 ? a.get(1) : now.sides[sign] == 1 ? a.get(0) : NONE;
    }

    List<int[]> clashes(int kind) {
      List<int[]> out = new ArrayList<>();
      for (int s = 0; s < states(kind).size(); s++) {
        for (int x = 0; x < 6; x++) if (action(kind, s, x) == -3) out.add(new int[] {s, x});
      }
      return out;
    }

    int settledPlaces(int kind) {
      int n = 0;
      for (int s = 0; s < states(kind).size(); s++) for (int x = 0; x < 6; x++) n += settled(kind, s, x) ? 1 : 0;
      return n;
    }

    String[] beginnings(int kind) {
      Map<Character, String> sh = shorts(use);
      String[] b = new String[states(kind).size()];
      b[0] = "";
      int[][] go = new int[b.length][10];
      for (int s = 0; s < b.length; s++) for (int x = 0; x < 10; x++) go[s][x] = go(kind, s, sym(x));
      for (boolean more = true; more; ) {
        more = false;
        for (int s = 0; s < b.length; s++) {
          for (int x = 0; x < 10; x++) {
            int t = go[s][x];
            if (t == NONE || b[s] == null || sh.get(sym(x)) == null) continue;
            String c = b[s] + sh.get(sym(x));
            if (b[t] == null || order(c, b[t]) < 0) {
              b[t] = c;
              more = true;
            }
          }
        }
      }
      for (int s = 0; s < b.length; s++) if (b[s] == null) b[s] = "none";
      return b;
    }
  }

  private Tables kept;
  private String keptFor;

  /** Tables are dear: they are made again when rules or ranks are other ones. */
  Tables tables() {
    StringBuilder key = new StringBuilder(Arrays.toString(now.ranks) + Arrays.toString(now.sides));
    for (R r : now.rules) key.append(' ').append(r.show());
    if (!key.toString().equals(keptFor)) {
      kept = new Tables();
      keptFor = key.toString();
    }
    return kept;
  }

  // ---- the face

  public int rule(int left, int many, int a, int b, int c, int d) {
    iae(left < 0 || left > 4 || many < 0 || many > 4);
    int[] row = {a, b, c, d};
    StringBuilder right = new StringBuilder();
    for (int i = 0; i < many; i++) {
      iae(row[i] < 0 || row[i] > 9);
      right.append(sym(row[i]));
    }
    R fresh = new R(sym(5 + left), right.toString(), 0);
    ise(now.rules.size() == 10);
    for (R r : now.rules) ise(r.show().equals(fresh.show()));
    change();
    now.rules.add(fresh);
    return now.rules.size() - 1;
  }

  public int drop(int rule) {
    ioobe(rule < 0 || rule >= now.rules.size());
    change();
    now.rules.remove(rule);
    return now.rules.size();
  }

  public int act(int rule, int act) {
    ioobe(rule < 0 || rule >= now.rules.size());
    iae(act < 0 || act > 3);
    change();
    int old = now.rules.get(rule).act;
    now.rules.get(rule).act = act;
    return old;
  }

  public int rank(int sign, int rank, int side) {
    iae(sign < 0 || sign > 4 || rank < 0 || rank > 9 || side < 0 || side > 2);
    change();
    int old = now.ranks[sign];
    now.ranks[sign] = rank;
    now.sides[sign] = side;
    return old;
  }

  public int needless() {
    List<R> use = useful(now.rules);
    int gone = now.rules.size() - use.size();
    if (gone > 0) {
      change();
      now.rules.retainAll(use);
    }
    return gone;
  }

  public int turn(int variable) {
    iae(variable < 0 || variable > 4);
    char v = sym(5 + variable);
    StringBuilder all = new StringBuilder();
    for (R r : now.rules) all.append(r.left).append(r.right);
    char w = 0;
    for (char c = 'B'; c <= 'E' && w == 0; c++) if (all.indexOf("" + c) < 0) w = c;
    int with = 0;
    int without = 0;
    for (R r : now.rules) {
      if (r.left != v) continue;
      if (r.right.equals("" + v)) return -4;
      if (r.right.startsWith("" + v)) with++;
      else without++;
      if (!r.right.startsWith("" + v) && r.right.length() == 4) return -4;
    }
    if (with == 0 || without == 0 || w == 0 || now.rules.size() == 10) return -4;
    change();
    List<R> out = new ArrayList<>();
    for (R r : now.rules) {
      if (r.left != v) out.add(r);
      else if (r.right.startsWith("" + v)) out.add(new R(w, r.right.substring(1) + w, r.act));
      else out.add(new R(v, r.right + w, r.act));
    }
    out.add(new R(w, "", 0));
    now.rules = out;
    return w - 'A';
  }

  public int shelve() {
    change();
    now.shelf = copyOf(now.rules);
    return now.shelf.size();
  }

  public int undo() {
    ise(past.isEmpty());
    now = past.remove(past.size() - 1);
    there = false;
    return past.size();
  }

  public int knock() {
    return ++knocks;
  }

  public int say(int a, int b, int c, int d, int e, int f) {
    int[] row = {a, b, c, d, e, f};
    String t = typed;
    boolean nothing = true;
    for (int x : row) iae(x < -1 || x > 6);
    for (int x : row) {
      nothing &= x == -1;
      if (x == 5) t = "";
      else if (x == 6) t = t.isEmpty() ? t : t.substring(0, t.length() - 1);
      else if (x >= 0) t += sym(x);
      ise(t.length() > 10);
    }
    typed = t;
    if (!nothing) there = false;
    return typed.length();
  }

  public int alter(int at, int sign) {
    ioobe(at < 0 || at >= typed.length());
    iae(sign < 0 || sign > 4);
    int old = typed.charAt(at) - 'a';
    typed = typed.substring(0, at) + sym(sign) + typed.substring(at + 1);
    there = false;
    return old;
  }

  public int begin(int kind) {
    iae(kind < 0 || kind > 3);
    ise(tables().states(kind) == null);
    ise(!tables().clashes(kind).isEmpty());
    stepsBefore = steps;
    begun++;
    steps = new ArrayList<>();
    pile = new ArrayList<>(Arrays.asList(0));
    place = 0;
    there = true;
    end = "";
    this.kind = kind;
    return tables().states(kind).size();
  }

  public int step() {
    ise(!there);
    if (!end.isEmpty()) return -8;
    int sign = place < typed.length() ? typed.charAt(place) - 'a' : 5;
    int a = tables().action(kind, pile.get(pile.size() - 1), sign);
    steps.add(a);
    if (a >= 0) {
      pile.add(a);
      place++;
    } else if (a <= -10) {
      R r = now.rules.get(-10 - a);
      for (int i = 0; i < r.right.length(); i++) pile.remove(pile.size() - 1);
      pile.add(tables().go(kind, pile.get(pile.size() - 1), r.left));
    } else {
      end = a == -2 ? "accept" : "refuse";
    }
    if (end.isEmpty() && steps.size() == 200) end = "endless";
    return a;
  }

  public int read(int kind) {
    begin(kind);
    while (end.isEmpty()) step();
    return end.equals("accept") ? steps.size() : end.equals("refuse") ? -100 - place : -6;
  }

  public String text(int rule) {
    ioobe(rule < 0 || rule >= now.rules.size());
    return now.rules.get(rule).show();
  }

  public int ofRule(int rule, int what) {
    ioobe(rule < 0 || rule >= now.rules.size());
    iae(what < 0 || what > 4);
    R r = now.rules.get(rule);
    return new int[] {r.left - 'A', r.right.length(), r.act, rankOf(r),
        useful(now.rules).contains(r) ? 1 : 0}[what];
  }

  public int ofVariable(int variable, int what) {
    iae(variable < 0 || variable > 4);
    iae(what < 0 || what > 5);
    char v = sym(5 + variable);
    List<R> use = useful(now.rules);
    switch (what) {
      case 0: return growing(now.rules).contains(v) ? 1 : 0;
      case 1: return reached(now.rules).contains(v) ? 1 : 0;
      case 2: return hollow(use).contains(v) ? 1 : 0;
      case 3: return bits(firstOf(use, "" + v));
      case 4: return bits(follow(use).get(v));
      default:
        int n = 0;
        for (R r : now.rules) n += r.left == v ? 1 : 0;
        return n;
    }
  }

  public String shortest(int variable) {
    iae(variable < 0 || variable > 4);
    return shorts(useful(now.rules)).getOrDefault(sym(5 + variable), "none");
  }

  public boolean hasRing() {
    return ring(useful(now.rules));
  }

  public int states(int kind) {
    iae(kind < 0 || kind > 3);
    return tables().states(kind) == null ? -5 : tables().states(kind).size();
  }

  void checkState(int kind, int state) {
    ioobe(kind < 0 || kind > 3 || tables().states(kind) == null);
    ioobe(state < 0 || state >= tables().states(kind).size());
  }

  public String state(int kind, int state) {
    checkState(kind, state);
    Map<Integer, String> items = new TreeMap<>();
    Map<Integer, String> looks = new TreeMap<>();
    for (String it : tables().states(kind).get(state)) {
      String bare = it.split("/")[0];
      int number = -1;
      for (int r = 0; r < now.rules.size(); r++) {
        if (now.rules.get(r).show().equals(bare.replace(".", ""))) number = r;
      }
      int key = number * 10 + bare.indexOf('.');
      items.put(key, bare);
      if (kind == 3) looks.merge(key, it.split("/")[1], (x, y) -> x + y);
    }
    List<String> out = new ArrayList<>();
    for (int key : items.keySet()) {
      String more = "";
      if (kind == 3) {
        for (char c : "abcde$".toCharArray()) if (looks.get(key).indexOf(c) >= 0) more += c;
        more = "/" + more;
      }
      out.add(items.get(key) + more);
    }
    return String.join(" ", out);
  }

  public int action(int kind, int state, int sign) {
    checkState(kind, state);
    iae(sign < 0 || sign > 5);
    return tables().action(kind, state, sign);
  }

  public int goes(int kind, int state, int variable) {
    checkState(kind, state);
    iae(variable < 0 || variable > 4);
    return tables().go(kind, state, sym(5 + variable));
  }

  public int looks(int kind, int state, int rule) {
    checkState(kind, state);
    ioobe(rule < 0 || rule >= now.rules.size());
    boolean isUseful = tables().use.contains(tables().all.get(rule));
    return isUseful ? bits(tables().looksKnown(kind, state, rule)) : 0;
  }

  public int clashes(int kind) {
    iae(kind < 0 || kind > 3);
    ise(tables().states(kind) == null);
    return tables().clashes(kind).size();
  }

  public int clash(int kind, int nth, int what) {
    iae(kind < 0 || kind > 3);
    ise(tables().states(kind) == null);
    List<int[]> all = tables().clashes(kind);
    ioobe(nth < 0 || nth >= all.size());
    iae(what < 0 || what > 4);
    int[] c = all.get(nth);
    List<Integer> a = tables().actions(kind, c[0], c[1]);
    int lowest = Integer.MAX_VALUE;
    for (int x : a) if (x <= -10) lowest = Math.min(lowest, -10 - x);
    return new int[] {c[0], c[1], a.size(), a.get(0) >= 0 ? a.get(0) : NONE, lowest}[what];
  }

  public String beginning(int kind, int state) {
    checkState(kind, state);
    return tables().beginnings(kind)[state];
  }

  public int ofTable(int kind, int what) {
    iae(kind < 0 || kind > 3);
    ise(tables().states(kind) == null);
    iae(what < 0 || what > 2);
    Set<List<Integer>> rows = new HashSet<>();
    int plain = 0;
    for (int s = 0; s < tables().states(kind).size(); s++) {
      List<Integer> row = new ArrayList<>();
      for (int x = 0; x < 6; x++) {
        int a = tables().action(kind, s, x);
        row.add(a);
        plain += a == NONE || a == -3 ? 0 : 1;
      }
      rows.add(row);
    }
    return new int[] {tables().settledPlaces(kind), rows.size(), plain}[what];
  }

  static String join(List<Integer> row) {
    StringBuilder b = new StringBuilder();
    for (int x : row) b.append(b.length() > 0 ? " " : "").append(x);
    return b.toString();
  }

  public String pile() {
    return there ? join(pile) : "";
  }

  public int stepAt(int nth) {
    iae(nth < 0);
    return there && nth < steps.size() ? steps.get(nth) : -8;
  }

  public String tree() {
    if (!there || !end.equals("accept")) return "";
    List<String> parts = new ArrayList<>();
    int at = 0;
    for (int a : steps) {
      if (a >= 0) parts.add("" + typed.charAt(at++));
      if (a <= -10) {
        R r = now.rules.get(-10 - a);
        List<String> top = parts.subList(parts.size() - r.right.length(), parts.size());
        String one = r.left + "(" + String.join("", top) + ")";
        top.clear();
        parts.add(one);
      }
    }
    return parts.get(0);
  }

  public int value() {
    if (!there || !end.equals("accept")) return NONE;
    List<BigInteger> parts = new ArrayList<>();
    BigInteger mod = BigInteger.valueOf(1000003);
    int at = 0;
    for (int a : steps) {
      if (a >= 0) parts.add(BigInteger.valueOf(typed.charAt(at++) - 'a' + 1));
      if (a <= -10) {
        R r = now.rules.get(-10 - a);
        List<BigInteger> top = parts.subList(parts.size() - r.right.length(), parts.size());
        BigInteger sum = BigInteger.ZERO;
        BigInteger product = BigInteger.ONE;
        BigInteger less = BigInteger.ZERO;
        BigInteger most = BigInteger.ZERO;
        for (int i = 0; i < top.size(); i++) {
          sum = sum.add(top.get(i));
          product = product.multiply(top.get(i));
          less = i == 0 ? top.get(i) : less.subtract(top.get(i));
          most = most.max(top.get(i));
        }
        top.clear();
        parts.add(new BigInteger[] {sum, product, less, most}[r.act].mod(mod));
      }
    }
    return parts.get(0).intValue();
  }

  public String derivation() {
    List<Integer> out = new ArrayList<>();
    for (int a : steps) if (a <= -10) out.add(-10 - a);
    Collections.reverse(out);
    return there ? join(out) : "";
  }

  public int shared() {
    int n = 0;
    while (begun >= 2 && n < steps.size() && n < stepsBefore.size()
        && steps.get(n).equals(stepsBefore.get(n))) {
      n++;
    }
    return n;
  }

  public String typed() {
    return typed;
  }

  public int nexts(int at) {
    ioobe(at < 0 || at > typed.length());
    List<R> use = useful(now.rules);
    String start = typed.substring(0, at);
    int out = isSentence(use, start) ? 32 : 0;
    for (int x = 0; x < 5; x++) out |= begins(use, start + sym(x)) ? 1 << x : 0;
    return out;
  }

  public int mend() {
    return mendCost();
  }

  public int trees() {
    List<R> use = useful(now.rules);
    if (ring(use)) return -7;
    BigInteger n = new Counter(use, typed).one('A', 0, typed.length());
    return n.compareTo(BigInteger.valueOf(1000000)) > 0 ? -5 : n.intValue();
  }

  private final Map<String, Set<String>> sentencesKnown = new HashMap<>();

  Set<String> sentencesOf(List<R> rules) {
    StringBuilder key = new StringBuilder();
    for (R r : rules) key.append(' ').append(r.show());
    if (!sentencesKnown.containsKey(key.toString())) {
      List<R> use = useful(rules);
      Set<String> out = new LinkedHashSet<>();
      for (String t : texts(3)) if (isSentence(use, t)) out.add(t);
      sentencesKnown.clear();
      sentencesKnown.put(key.toString(), out);
    }
    return sentencesKnown.get(key.toString());
  }

  public int sentences(int length) {
    iae(length < 0 || length > 3);
    int n = 0;
    for (String t : sentencesOf(now.rules)) n += t.length() == length ? 1 : 0;
    return n;
  }

  public String sentence(int nth) {
    iae(nth < 0);
    List<String> all = new ArrayList<>(sentencesOf(now.rules));
    return nth < all.size() ? all.get(nth) : "none";
  }

  public String twin(int length) {
    iae(length < 0 || length > 3);
    List<R> use = useful(now.rules);
    if (ring(use)) return "none";
    for (String t : sentencesOf(now.rules)) {
      if (t.length() <= length
          && new Counter(use, t).one('A', 0, t.length()).compareTo(BigInteger.ONE) > 0) return t;
    }
    return "none";
  }

  public String differ(int length) {
    iae(length < 0 || length > 3);
    Set<String> here = sentencesOf(now.rules);
    Set<String> there = sentencesOf(now.shelf);
    for (String t : texts(length)) if (here.contains(t) != there.contains(t)) return t;
    return "none";
  }

  public int house(int what) {
    iae(what < 0 || what > 8);
    return new int[] {now.rules.size(), useful(now.rules).size(), typed.length(), past.size(),
        now.shelf.size(), there ? 1 : 0, there ? place : NONE, there ? steps.size() : 0, knocks}[what];
  }

  /** What a reading of a text by a kind comes to, as read() tells; this object is as before. */
  private int tryRead(int kind, String text) {
    Reference other = new Reference();
    other.now = now;
    other.kept = tables();
    other.keptFor = keptFor;
    other.typed = text;
    return other.read(kind);
  }

  public boolean isSound() {
    List<R> use = useful(now.rules);
    Set<String> all = sentencesOf(now.rules);
    boolean ring = ring(use);
    for (int k = 0; k < 4; k++) {
      if (tables().states(k) == null || !tables().clashes(k).isEmpty() || tables().settledPlaces(k) > 0) continue;
      if (ring) return false;
      for (String t : texts(2)) {
        int r = tryRead(k, t);
        if (r != -6 && r >= 0 != all.contains(t)) return false;
        if (new Counter(use, t).one('A', 0, t.length()).compareTo(BigInteger.ONE) > 0) return false;
      }
    }
    if (tables().states(3) != null) {
      Set<Set<String>> cores = new HashSet<>();
      for (Set<String> s : tables().states3) cores.add(tables().core(s));
      if (!cores.equals(new HashSet<>(tables().states0))) return false;
    }
    return nexts(0) == bits(firstOf(use, "A")) + (hollow(use).contains('A') ? 32 : 0);
  }

  public long digest() {
    long d = 6105;
    for (int i = 0; i <= 8; i++) d = d * 31 + house(i);
    for (int r = 0; r < now.rules.size(); r++) for (int i = 0; i <= 4; i++) d = d * 31 + ofRule(r, i);
    for (int v = 0; v < 5; v++) {
      for (int i = 0; i <= 5; i++) d = d * 31 + ofVariable(v, i);
      d = d * 31 + shortest(v).length();
    }
    d = d * 31 + (hasRing() ? 1 : 0);
    for (int k = 0; k < 4; k++) {
      d = d * 31 + states(k);
      if (states(k) == -5) continue;
      d = d * 31 + clashes(k);
      for (int i = 0; i <= 2; i++) d = d * 31 + ofTable(k, i);
      String[] beginnings = tables().beginnings(k);
      for (int s = 0; s < states(k); s++) {
        d = d * 31 + state(k, s).length();
        for (int x = 0; x <= 5; x++) d = d * 31 + action(k, s, x);
        d = d * 31 + beginnings[s].length();
      }
    }
    d = d * 31 + pile().length();
    d = d * 31 + tree().length();
    d = d * 31 + value();
    d = d * 31 + derivation().length();
    d = d * 31 + shared();
    d = d * 31 + nexts(typed.length());
    d = d * 31 + mend();
    d = d * 31 + trees();
    for (int i = 0; i <= 2; i++) d = d * 31 + sentences(i);
    d = d * 31 + twin(2).length();
    d = d * 31 + differ(2).length();
    return d * 31 + (isSound() ? 1 : 0);
  }
}
