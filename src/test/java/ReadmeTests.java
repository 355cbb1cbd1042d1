import java.io.ByteArrayOutputStream;
import java.io.PrintStream;
import java.util.ArrayList;
import java.util.List;
import java.util.regex.Matcher;
import java.util.regex.Pattern;

/** The example of README.md compiles and prints what stands beside each line that prints. */
public final class ReadmeTests extends Edge {
  private static final Pattern EXAMPLE = Pattern.compile("```java\n(.*?)```", Pattern.DOTALL);
  private static final Pattern PRINTS = Pattern.compile("// prints ([^:\n]+)");

  public static void main(String[] args) {
    Matcher example = EXAMPLE.matcher(Compiled.textOf("README.md"));
    same(true, example.find());
    String lines = example.group(1);
    List<String> due = new ArrayList<>();
    for (Matcher prints = PRINTS.matcher(lines); prints.find();) {
      due.add(prints.group(1));
    }
    same(true, due.size() > 0);
    same(due, printed("public final class ReadmeExample {\n  public static void main(String[] args) {\n"
        + lines + "  }\n}\n"));
    end(new String[0]);
  }

  private static List<String> printed(String source) {
    Class<?> example = Compiled.from("ReadmeExample", source, ReadmeTests.class.getClassLoader());
    ByteArrayOutputStream bytes = new ByteArrayOutputStream();
    PrintStream screen = System.out;
    System.setOut(new PrintStream(bytes, true));
    try {
      example.getMethod("main", String[].class).invoke(null, (Object) new String[0]);
    } catch (ReflectiveOperationException thrown) {
      throw new IllegalStateException(thrown);
    } finally {
      System.setOut(screen);
    }
    return bytes.toString().lines().toList();
  }
}
