import java.io.IOException;
import java.lang.reflect.Method;
import java.nio.file.Files;
import java.nio.file.Path;
import java.util.regex.Matcher;
import java.util.regex.Pattern;

/** What README.md shows is answered so. Takes the source's path, from which README.md is found. */
public final class ReadmeTest {
  private static final Check CHECK = new Check("ReadmeTest");
  private static final Pattern LINE = Pattern.compile("x\\.(\\w+)\\((.*)\\); +// = ?(\\S+( A>\\S+)*)?.*");
  private static final Pattern INNER = Pattern.compile("x\\.(\\w+)\\(([^()]*)\\)");

  public static void main(String[] args) throws IOException, ReflectiveOperationException {
    Path source = Path.of(args.length > 0 ? args[0] : "src/main/java/Tablemaker.java").toAbsolutePath();
    Path root = source.getParent().getParent().getParent().getParent();
    String text = Files.readString(root.resolve("README.md"));
    shown(text);
    named(text);
    CHECK.end();
  }

  private static void shown(String text) throws ReflectiveOperationException {
    Tablemaker x = new Tablemaker();
    int lines = 0;
    for (String line : text.split("\n")) {
      Matcher m = LINE.matcher(line);
      if (m.matches()) {
        lines++;
        String due = line.contains("// =      ") ? "" : m.group(3);
        CHECK.due(line, answer(x, m.group(1), m.group(2)), due);
      }
    }
    CHECK.due("lines that show an answer", lines > 20, true);
  }

  /** An argument may be a call itself. */
  private static String answer(Tablemaker x, String name, String args) throws ReflectiveOperationException {
    Matcher inner = INNER.matcher(args);
    if (inner.find()) {
      String number = answer(x, inner.group(1), inner.group(2));
      return answer(x, name, args.substring(0, inner.start()) + number + args.substring(inner.end()));
    }
    String[] parts = args.isEmpty() ? new String[0] : args.split(", ");
    Class<?>[] types = new Class<?>[parts.length];
    Object[] values = new Object[parts.length];
    for (int i = 0; i < parts.length; i++) {
      types[i] = int.class;
      values[i] = Integer.parseInt(parts[i]);
    }
    return "" + Tablemaker.class.getMethod(name, types).invoke(x, values);
  }

  /** Each call of the face is named. */
  private static void named(String text) {
    for (Method m : Tablemaker.class.getDeclaredMethods()) {
      if (java.lang.reflect.Modifier.isPublic(m.getModifiers())) {
        CHECK.due(m.getName() + " is named", text.contains("`" + m.getName() + "`"), true);
      }
    }
  }
}
