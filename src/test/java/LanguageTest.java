import java.io.IOException;
import java.nio.file.Files;
import java.nio.file.Path;
import java.util.regex.Matcher;
import java.util.regex.Pattern;

/** The program keeps to the words of the language that it may use. Takes the source's path. */
public final class LanguageTest {
  private static final String[] BARRED = {"->", "::", "\\btry\\b", "\\bcatch\\b", "\\bfinally\\b",
    "\\bsynchronized\\b", "\\bassert\\b", "\\binstanceof\\b", "\\bpackage\\b", "\\bvar\\b",
    "\\bprotected\\b", "\\byield\\b", "\\bnative\\b", "\\bstrictfp\\b", "\\bvolatile\\b",
    "String\\.format", "\\.equals\\(", "\\.hashCode\\(", "Exact\\(", "System\\.(?!arraycopy)",
    "Thread", "Random", "numberOfTrailing", "numberOfLeading", "static \\{", "\"\\s*\\+", "\\+\\s*\"", "while \\(true", "for \\(;;"};

  public static void main(String[] args) throws IOException {
    Check check = new Check("LanguageTest");
    Path path = Path.of(args.length > 0 ? args[0] : "src/main/java/Tablemaker.java");
    String source = Files.readString(path);
    String code = source.replaceAll("(?s)/\\*.*?\\*/", "").replaceAll("//[^\n]*", "");
    for (String barred : BARRED) {
      Matcher m = Pattern.compile(barred).matcher(code);
      check.due("the source has " + barred, m.find(), false);
    }
    Matcher imports = Pattern.compile("import ([\\w.]+);").matcher(code);
    while (imports.find()) {
      check.due("import " + imports.group(1), imports.group(1).startsWith("java.util."), true);
    }
    Matcher thrown = Pattern.compile("throw new (\\w+)\\((.*?)\\);").matcher(code);
    while (thrown.find()) {
      check.due("throw " + thrown.group(1), thrown.group(2).matches("\"[^\"]*\""), true);
    }
    int throwsAll = code.split("\\bthrow\\b", -1).length;
    int throwsNew = code.split("\\bthrow new Ill|\\bthrow new Ind", -1).length;
    check.due("throws of new exceptions alone", throwsNew, throwsAll);
    for (int i = 0; i < source.length(); i++) {
      if (source.charAt(i) > 126) {
        check.due("sign at " + i, (int) source.charAt(i), 0);
      }
    }
    lengths(check, code);
    check.end();
  }

  /** Methods are those that begin two or four blanks in and end with a bracket just there. */
  private static void lengths(Check check, String code) {
    String[] lines = code.split("\n");
    int start = 0;
    for (int i = 0; i < lines.length; i++) {
      if (lines[i].matches("( {2}| {4})\\S.*\\).*\\{|( {2}| {4})\\S[^;=]*\\(.*")) {
        start = i;
      }
      if (lines[i].matches("( {2}| {4})\\}")) {
        check.due("a method of " + (i - start + 1) + " lines at " + start, i - start < 60 || start == 0, true);
      }
    }
  }
}
