import java.io.IOException;
import java.lang.reflect.Method;
import java.lang.reflect.Modifier;
import java.nio.file.Files;
import java.nio.file.Path;
import java.util.ArrayList;
import java.util.List;
import java.util.stream.Stream;

/** README.md: its examples answer as they say, and it names every call and every test. */
public final class ReadmeTest {
  private static final Due d = new Due();

  public static void main(String[] args) throws IOException {
    String readme = Files.readString(Path.of("README.md"));
    List<String> lines = exampleLines(readme);
    int checked = aFieldWrittenAndRead(lines, 0);
    checked = aHiddenMethod(lines, checked);
    d.due("lines of the examples that were held against the class", checked, lines.size());
    namesEveryCall(readme);
    namesEveryTest(readme);
    d.end();
  }

  /** The lines of the Java examples that tell an answer: those that make an object tell none. */
  private static List<String> exampleLines(String readme) {
    List<String> found = new ArrayList<>();
    boolean inside = false;
    for (String line : readme.split("\n")) {
      if (line.startsWith("```")) {
        inside = line.equals("```java");
      } else if (inside && line.contains("//")) {
        found.add(line);
      }
    }
    return found;
  }

  /** Line i of the examples is this call, and says what it answers. */
  private static int line(List<String> lines, int i, String call, long got) {
    String line = i < lines.size() ? lines.get(i) : "";
    d.holds("line " + i + " of the examples is " + call, line.startsWith(call + "; "));
    String said = line.replaceAll("^.*// *", "").replaceAll("[^-0-9].*$", "");
    d.holds("'" + line + "' says the answer " + got, said.equals(Long.toString(got)));
    return i + 1;
  }

  private static int aFieldWrittenAndRead(List<String> lines, int start) {
    ReflectModels x = new ReflectModels();
    int i = start;
    i = line(lines, i, "x.type(0, 0, ReflectModels.NONE, false, false)", x.type(0, 0, ReflectModels.NONE, false, false));
    i = line(lines, i, "x.field(1, 0, -1, false, false, false)", x.field(1, 0, -1, false, false, false));
    i = line(lines, i, "x.make(1)", x.make(1));
    i = line(lines, i, "x.findField(1, 0, true)", x.findField(1, 0, true));
    i = line(lines, i, "x.value(0, 1, 7)", x.value(0, 1, 7));
    i = line(lines, i, "x.set(0, 0)", x.set(0, 0));
    i = line(lines, i, "x.get(0, 0, -2)", x.get(0, 0, -2));
    i = line(lines, i, "x.resultKind()", x.resultKind());
    return line(lines, i, "x.result()", x.result());
  }

  private static int aHiddenMethod(List<String> lines, int start) {
    ReflectModels y = new ReflectModels();
    int i = start;
    i = line(lines, i, "y.type(0, 0, ReflectModels.NONE, false, false)", y.type(0, 0, ReflectModels.NONE, false, false));
    i = line(lines, i, "y.method(1, 5, 2, -1, -1, -1, 4 + 1, 1, 0)", y.method(1, 5, 2, -1, -1, -1, 4 + 1, 1, 0));
    i = line(lines, i, "y.findMethod(1, 5, 2, -1, -1, true)", y.findMethod(1, 5, 2, -1, -1, true));
    i = line(lines, i, "y.findMethod(1, 5, 2, -1, -1, false)", y.findMethod(1, 5, 2, -1, -1, false));
    i = line(lines, i, "y.value(0, 1, 9)", y.value(0, 1, 9));
    i = line(lines, i, "y.value(1, 1, 0)", y.value(1, 1, 0));
    i = line(lines, i, "y.call(0, ReflectModels.NONE)", y.call(0, ReflectModels.NONE));
    i = line(lines, i, "y.leave(0)", y.leave(0));
    i = line(lines, i, "y.call(0, ReflectModels.NONE)", y.call(0, ReflectModels.NONE));
    i = line(lines, i, "y.cause()", y.cause());
    i = line(lines, i, "y.value(1, 1, 2)", y.value(1, 1, 2));
    i = line(lines, i, "y.call(0, ReflectModels.NONE)", y.call(0, ReflectModels.NONE));
    return line(lines, i, "y.result()", y.result());
  }

  private static void namesEveryCall(String readme) {
    for (Method m : ReflectModels.class.getDeclaredMethods()) {
      if (Modifier.isPublic(m.getModifiers())) {
        boolean named = readme.contains("`" + m.getName() + "`") || readme.contains("`" + m.getName() + "(");
        d.holds("README.md names " + m.getName(), named);
      }
    }
  }

  private static void namesEveryTest(String readme) throws IOException {
    try (Stream<Path> files = Files.list(Path.of("src/test/java"))) {
      files.map(file -> file.getFileName().toString()).filter(name -> name.endsWith("Test.java"))
          .map(name -> name.substring(0, name.length() - ".java".length()))
          .forEach(name -> d.holds("README.md names " + name, readme.contains("| " + name + " |")));
    }
  }
}
