/** What the tests share: grammars from texts, and the comparison of answers. */
final class Check {
  interface Call {
    Object run();
  }

  private static final String SYMBOLS = "abcdeABCDE";
  private final String name;
  private int wrong;
  private int done;

  Check(String name) {
    this.name = name;
    Watch.over(name);
  }

  static Used grammar(String rules) {
    Used x = new Used();
    if (!rules.isEmpty()) {
      for (String one : rules.split(" ")) {
        add(x, one);
      }
    }
    return x;
  }

  static int add(Used x, String rule) {
    int[] right = new int[4];
    for (int i = 2; i < rule.length(); i++) {
      right[i - 2] = SYMBOLS.indexOf(rule.charAt(i));
    }
    return x.rule(rule.charAt(0) - 'A', rule.length() - 2, right[0], right[1], right[2], right[3]);
  }

  /** All is full: ten rules here and on the shelf, ten signs, eight changes, and a reading that accepts. */
  static Used full() {
    Used x = grammar("A>AcB A>B B>BdC B>C C>aAb C>e C>bE E>aE E>a C>caaa");
    type(x, "aecebdecba");
    x.shelve();
    x.act(0, 1);
    x.act(9, 3);
    x.rank(0, 9, 2);
    x.rank(4, 1, 1);
    x.knock();
    x.read(1);
    return x;
  }

  /** Empties what is typed, and types a text. */
  static Used type(Used x, String text) {
    x.say(5, -1, -1, -1, -1, -1);
    for (char c : text.toCharArray()) {
      x.say(c - 'a', -1, -1, -1, -1, -1);
    }
    return x;
  }

  static String rules(Used x) {
    StringBuilder all = new StringBuilder();
    for (int rule = 0; rule < x.house(0); rule++) {
      all.append(rule == 0 ? "" : " ").append(x.text(rule));
    }
    return all.toString();
  }

  static String house(Used x) {
    StringBuilder all = new StringBuilder();
    for (int what = 0; what <= 8; what++) {
      all.append(what == 0 ? "" : " ").append(x.house(what));
    }
    return all.toString();
  }

  /** All that can be asked of an object. */
  static String shown(Used x) {
    StringBuilder all = new StringBuilder();
    all.append(house(x)).append('|').append(rules(x)).append('|').append(x.digest());
    all.append('|').append(x.typed()).append('|').append(x.pile()).append('|').append(x.tree());
    all.append('|').append(x.value()).append('|').append(x.derivation()).append('|').append(x.shared());
    all.append('|').append(x.sentence(0)).append('|').append(x.differ(3));
    for (int rule = 0; rule < x.house(0); rule++) {
      all.append(' ').append(x.ofRule(rule, 2)).append(x.ofRule(rule, 3));
    }
    return all.toString();
  }

  void due(String call, Object got, Object want) {
    done++;
    if (!want.equals(got)) {
      wrong++;
      System.out.println(name + ": " + call + " answered " + got + ", due is " + want);
    }
  }

  /** The call throws nothing. */
  void allowed(String call, Call body) {
    done++;
    try {
      body.run();
    } catch (RuntimeException e) {
      wrong++;
      System.out.println(name + ": " + call + " threw " + e.getClass().getName() + ", due is nothing");
    }
  }

  /** The call throws just this, and the object is as before. */
  void fails(String call, Class<?> type, Used x, Call body) {
    done++;
    String before = shown(x);
    String got;
    try {
      got = "answered " + body.run();
    } catch (RuntimeException e) {
      got = e.getClass() == type ? "" : "threw " + e.getClass().getName();
    }
    if (!got.isEmpty()) {
      wrong++;
      System.out.println(name + ": " + call + " " + got + ", due is " + type.getName());
    }
    if (!shown(x).equals(before)) {
      wrong++;
      System.out.println(name + ": " + call + " changed something");
    }
  }

  void end() {
    System.out.println(name + ": " + done + " checks, " + wrong + " wrong");
    if (wrong > 0 || done == 0) {
      System.exit(1);
    }
  }
}
