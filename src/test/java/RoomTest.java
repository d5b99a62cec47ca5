import com.sun.management.ThreadMXBean;
import java.lang.management.ManagementFactory;
import java.lang.reflect.Array;
import java.lang.reflect.Field;
import java.lang.reflect.Modifier;
import java.util.IdentityHashMap;
import java.util.Map;

/** How much room an object and 512 calls take. */
public final class RoomTest {
  private static final Check CHECK = new Check("RoomTest");
  private static final String WIDE =
      "E>abae E>dBAB C>dEed A>aeA E>BDBC B>dddA A>dDE D>dddC E>e B>BdBD";
  private static final String LONG =
      "E>BBBB A>DaC A>DDDD C>EEEE B>BA B>AaB B>CCCC A>AEc B>AAAA D>dade";

  private final Map<Object, Boolean> seen = new IdentityHashMap<>();
  private long objects;
  private long elements;

  private void count(Object one) throws IllegalAccessException {
    if (one == null || seen.put(one, true) != null) {
      return;
    }
    objects++;
    if (one.getClass().isArray()) {
      elements += Array.getLength(one);
      for (int i = 0; i < Array.getLength(one) && !one.getClass().getComponentType().isPrimitive(); i++) {
        count(Array.get(one, i));
      }
    } else if (one.getClass().getName().startsWith("Tablemaker")) {
      for (Field f : one.getClass().getDeclaredFields()) {
        if (!Modifier.isStatic(f.getModifiers())) {
          f.setAccessible(true);
          elements++;
          if (!f.getType().isPrimitive()) {
            count(f.get(one));
          }
        }
      }
    }
  }

  private static long allocated() {
    ThreadMXBean bean = (ThreadMXBean) ManagementFactory.getThreadMXBean();
    return bean.getThreadAllocatedBytes(Thread.currentThread().getId());
  }

  private static void room(String what, String rules, long bytes, Runnable[] calls) {
    long before = allocated();
    for (int i = 0; i < 500; i++) {
      calls[i % calls.length].run();
    }
    long taken = allocated() - before;
    System.out.println("RoomTest: " + what + " by " + rules + " took " + taken + " bytes");
    CHECK.due(what + " by " + rules + " takes little", taken <= bytes, true);
  }

  public static void main(String[] args) throws IllegalAccessException {
    RoomTest fresh = new RoomTest();
    fresh.count(new Tablemaker());
    System.out.println("RoomTest: " + fresh.objects + " objects, " + fresh.elements + " elements");
    CHECK.due("few objects", fresh.objects < 500, true);
    CHECK.due("few elements", fresh.elements < 40000, true);
    for (String rules : new String[] {"", "A>AcB A>B B>BdC B>C C>aAb C>e", WIDE, LONG}) {
      Tablemaker x = Check.grammar(rules);
      x.say(3, 0, 3, 4, -1, -1);
      room("digest", rules, 200000, new Runnable[] {x::digest, () -> x.rank(0, 1, 0), x::shelve});
      room("tables", rules, 200000, new Runnable[] {() -> x.rank(0, 2, 0), () -> x.ofTable(1, 1),
          x::isSound, x::mend, x::trees, x::undo, () -> x.nexts(4)});
      int states = x.states(0);
      int[] at = {0};
      room("texts", rules, 5000000, new Runnable[] {() -> x.beginning(0, at[0]++ % states),
          () -> x.shortest(0), () -> x.state(0, at[0]++ % states), x::pile, x::tree, x::derivation,
          () -> x.sentence(1), () -> x.twin(3), () -> x.differ(3)});
      RoomTest used = new RoomTest();
      used.count(x);
      CHECK.due("few elements afterwards", used.elements < 100000, true);
    }
    CHECK.end();
  }
}
