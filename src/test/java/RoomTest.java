import com.sun.management.ThreadMXBean;
import java.lang.management.ManagementFactory;
import java.lang.reflect.Array;
import java.lang.reflect.Field;
import java.lang.reflect.Modifier;
import java.util.IdentityHashMap;
import java.util.Map;

/** How much room an object and 512 calls take. */
public final class RoomTest {
  private static final Check CHECK = new Check("RoomTest");
  private static final String WIDE =
      "E>abae E>dBAB C>dEed A>aeA E>BDBC B>dddA A>dDE D>dddC E>e B>BdBD";
  private static final String LONG =
      "E>BBBB A>DaC A>DDDD C>EEEE B>BA B>AaB B>CCCC A>AEc B>AAAA D>dade";

  private final Map<Object, Boolean> seen = new IdentityHashMap<>();
  private long objects;
  private long elements;

  private void count(Object one) throws IllegalAccessException {
    if (one == null || seen.put(one, true) != null) {
      return;
    }
    objects++;
    if (one.getClass().isArray()) {
      elements += Array.getLength(one);
      for (int i = 0; i < Array.getLength(one) && !one.getClass().getComponentType().isPrimitive(); i++) {
        count(Array.get(one, i));
      }
    } else if (one.getClass().getName().startsWith("Tablemaker")) {
      for (Field f : one.getClass().getDeclaredFields()) {
        if (!Modifier.isStatic(f.getModifiers())) {
          f.setAccessible(true);
          elements++;
          if (!f.getType().isPrimitive()) {
            count(f.get(one));
          }
        }
      }
    }
  }

  private static long allocated() {
    ThreadMXBean bean = (ThreadMXBean) ManagementFactory.getThreadMXBean();
    return bean.getThreadAllocatedBytes(Thread.currentThread().getId());
  }

  private interface Call {
    void on(Tablemaker x, int nth);
  }

  private static Tablemaker made(String rules) {
    Tablemaker x = new Tablemaker();
    for (String rule : rules.isEmpty() ? new String[0] : rules.split(" ")) {
      int[] right = new int[4];
      for (int i = 2; i < rule.length(); i++) {
        right[i - 2] = "abcdeABCDE".indexOf(rule.charAt(i));
      }
      x.rule(rule.charAt(0) - 'A', rule.length() - 2, right[0], right[1], right[2], right[3]);
    }
    x.say(3, 0, 3, 4, -1, -1);
    return x;
  }

  /** Ten rules and one call that types are there already, so 500 more are all that is left. */
  private static void room(String what, String rules, long bytes, Call[] calls)
      throws IllegalAccessException {
    Tablemaker x = made(rules);
    long before = allocated();
    for (int i = 0; i < 500; i++) {
      calls[i % calls.length].on(x, i);
    }
    long taken = allocated() - before;
    System.out.println("RoomTest: " + what + " by " + rules + " took " + taken + " bytes");
    CHECK.due(what + " by " + rules + " takes little", taken <= bytes, true);
    RoomTest used = new RoomTest();
    used.count(x);
    CHECK.due("few elements afterwards", used.elements < 100000, true);
  }

  public static void main(String[] args) throws IllegalAccessException {
    RoomTest fresh = new RoomTest();
    fresh.count(new Tablemaker());
    System.out.println("RoomTest: " + fresh.objects + " objects, " + fresh.elements + " elements");
    CHECK.due("few objects", fresh.objects < 500, true);
    CHECK.due("few elements", fresh.elements < 40000, true);
    Call[] digests = {(x, nth) -> x.digest(), (x, nth) -> x.rank(0, 1, 0), (x, nth) -> x.shelve()};
    Call[] tables = {(x, nth) -> x.rank(0, 2, 0), (x, nth) -> x.ofTable(1, 1), (x, nth) -> x.isSound(),
        (x, nth) -> x.mend(), (x, nth) -> x.trees(), (x, nth) -> x.undo(), (x, nth) -> x.nexts(4)};
    for (String rules : new String[] {"", "A>AcB A>B B>BdC B>C C>aAb C>e", WIDE, LONG}) {
      int states = made(rules).states(0);
      Call[] texts = {(x, nth) -> x.beginning(0, nth % states), (x, nth) -> x.shortest(0),
          (x, nth) -> x.state(0, nth % states), (x, nth) -> x.pile(), (x, nth) -> x.tree(),
          (x, nth) -> x.derivation(), (x, nth) -> x.sentence(1), (x, nth) -> x.twin(3),
          (x, nth) -> x.differ(3)};
      room("digest", rules, 200000, digests);
      room("tables", rules, 200000, tables);
      room("texts", rules, 5000000, texts);
    }
    CHECK.end();
  }
}
