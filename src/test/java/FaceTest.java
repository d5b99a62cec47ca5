import java.lang.reflect.Constructor;
import java.lang.reflect.Field;
import java.lang.reflect.Method;
import java.lang.reflect.Modifier;
import java.util.ArrayList;
import java.util.Arrays;
import java.util.List;
import java.util.Set;
import java.util.TreeSet;

/** The class has the face of the document, and nothing else that can be seen. */
public final class FaceTest {
  private static final String FACE = """
      int rule(int, int, int, int, int, int) IllegalArgumentException IllegalStateException
      int drop(int) IndexOutOfBoundsException
      int act(int, int) IndexOutOfBoundsException IllegalArgumentException
      int rank(int, int, int) IllegalArgumentException
      int needless()
      int turn(int) IllegalArgumentException
      int shelve()
      int undo() IllegalStateException
      int knock()
      int say(int, int, int, int, int, int) IllegalArgumentException IllegalStateException
      int alter(int, int) IndexOutOfBoundsException IllegalArgumentException
      int begin(int) IllegalArgumentException IllegalStateException
      int step() IllegalStateException
      int read(int) IllegalArgumentException IllegalStateException
      String text(int) IndexOutOfBoundsException
      int ofRule(int, int) IndexOutOfBoundsException IllegalArgumentException
      int ofVariable(int, int) IllegalArgumentException
      String shortest(int) IllegalArgumentException
      boolean hasRing()
      int states(int) IllegalArgumentException
      String state(int, int) IndexOutOfBoundsException
      int action(int, int, int) IndexOutOfBoundsException IllegalArgumentException
      int goes(int, int, int) IndexOutOfBoundsException IllegalArgumentException
      int looks(int, int, int) IndexOutOfBoundsException
      int clashes(int) IllegalArgumentException IllegalStateException
      int clash(int, int, int) IllegalArgumentException IllegalStateException IndexOutOfBoundsException
      String beginning(int, int) IndexOutOfBoundsException
      int ofTable(int, int) IllegalArgumentException IllegalStateException
      String pile()
      int stepAt(int) IllegalArgumentException
      String tree()
      int value()
      String derivation()
      int shared()
      String typed()
      int nexts(int) IndexOutOfBoundsException
      int mend()
      int trees()
      int sentences(int) IllegalArgumentException
      String sentence(int) IllegalArgumentException
      String twin(int) IllegalArgumentException
      String differ(int) IllegalArgumentException
      int house(int) IllegalArgumentException
      boolean isSound()
      long digest()
      """;

  private static String show(Method m) {
    List<String> types = new ArrayList<>();
    for (Class<?> type : m.getParameterTypes()) {
      types.add(type.getSimpleName());
    }
    StringBuilder out = new StringBuilder();
    out.append(m.getReturnType().getSimpleName()).append(' ').append(m.getName());
    out.append('(').append(String.join(", ", types)).append(')');
    for (Class<?> type : m.getExceptionTypes()) {
      out.append(' ').append(type.getSimpleName());
    }
    return out.toString();
  }

  public static void main(String[] args) {
    Check check = new Check("FaceTest");
    Class<?> type = Tablemaker.class;
    Set<String> due = new TreeSet<>(Arrays.asList(FACE.strip().split("\n")));
    Set<String> got = new TreeSet<>();
    Set<String> names = new TreeSet<>();
    for (Method m : type.getDeclaredMethods()) {
      if (!Modifier.isPrivate(m.getModifiers()) && !m.isSynthetic()) {
        check.due(m.getName() + " is public", Modifier.toString(m.getModifiers()), "public");
        got.add(show(m));
        names.add(m.getName());
      }
    }
    check.due("methods", got, due);
    for (Method m : type.getDeclaredMethods()) {
      if (Modifier.isPrivate(m.getModifiers())) {
        check.due(m + " bears a name of the face", names.contains(m.getName()), false);
      }
    }
    check.due("class", Modifier.toString(type.getModifiers()), "public final");
    check.due("constructors", type.getDeclaredConstructors().length, 1);
    Constructor<?> made = type.getDeclaredConstructors()[0];
    check.due("constructor", Modifier.toString(made.getModifiers()) + made.getParameterCount(), "public0");
    for (Field f : type.getDeclaredFields()) {
      check.due("field " + f.getName() + " is private", Modifier.isPrivate(f.getModifiers()), true);
    }
    List<Class<?>> all = new ArrayList<>(Arrays.asList(type.getDeclaredClasses()));
    check.due("some twelve classes", all.size() <= 12, true);
    for (Class<?> inside : all) {
      check.due(inside.getName() + " is static", Modifier.isStatic(inside.getModifiers()), true);
      check.due(inside.getName() + " is not public", Modifier.isPublic(inside.getModifiers()), false);
      for (Method m : inside.getDeclaredMethods()) {
        check.due(m + " bears a name of the face", names.contains(m.getName()), false);
      }
    }
    all.add(type);
    for (Class<?> one : all) {
      int fields = 0;
      for (Field f : one.getDeclaredFields()) {
        boolean isStatic = Modifier.isStatic(f.getModifiers());
        fields += isStatic ? 0 : 1;
        check.due(f + " is final", !isStatic || Modifier.isFinal(f.getModifiers()), true);
      }
      check.due("some twenty fields in " + one.getName(), fields <= 20, true);
      for (Method m : one.getDeclaredMethods()) {
        check.due(m + " takes at most seven", m.getParameterCount() <= 7, true);
      }
    }
    check.end();
  }
}
