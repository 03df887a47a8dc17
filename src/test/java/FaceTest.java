import java.io.IOException;
import java.lang.reflect.Constructor;
import java.lang.reflect.Field;
import java.lang.reflect.Method;
import java.lang.reflect.Modifier;
import java.nio.file.Files;
import java.nio.file.Path;
import java.util.Arrays;
import java.util.Set;
import java.util.TreeSet;
import java.util.regex.Matcher;
import java.util.regex.Pattern;

/** The document's public face, and the rules of LANGUAGE.md that can be seen from outside. */
public final class FaceTest {
  private static final String[] FACE = {
    "int about(int,int)", "int call(int,int)", "int caller(int)", "int cause()", "int constant(int,int)",
    "int constants(int,int)", "int field(int,int,int,boolean,boolean,boolean)", "int findField(int,int,boolean)",
    "int findMethod(int,int,int,int,int,boolean)", "int get(int,int,int)", "int handle(int,int)", "int is(int,int)",
    "int leave(int)", "int make(int)", "int method(int,int,int,int,int,int,int,int,int)", "int proxy(int,int)",
    "int resultKind()", "int set(int,int)", "int start(int)", "int told(int)",
    "int type(int,int,int,boolean,boolean)", "int value(int,int,long)", "long result()"};
  private static final String[] CONSTANTS = {"FULL", "NONE", "OUTSIDE", "STATE", "UNKNOWN"};
  private static final String[] FORBIDDEN = {
    "throw", "throws", "try", "catch", "finally", "synchronized", "assert", "import", "package", "Object", "Math",
    "yield", "volatile", "native", "equals", "hashCode", "toString"};
  private static final Due d = new Due();

  public static void main(String[] args) throws IOException {
    methodsOfTheFace();
    constructorsAndFields();
    nestedClasses();
    wordsOfTheSource();
    d.end();
  }

  private static void methodsOfTheFace() {
    Set<String> open = new TreeSet<>();
    Set<String> openNames = new TreeSet<>();
    for (Method m : ReflectModels.class.getDeclaredMethods()) {
      if (!Modifier.isPrivate(m.getModifiers())) {
        String types = Arrays.toString(m.getParameterTypes()).replaceAll("[\\[\\] ]", "");
        open.add(m.getReturnType() + " " + m.getName() + "(" + types + ")");
        openNames.add(m.getName());
        d.holds(m + " is public, and no more", m.getModifiers() == Modifier.PUBLIC);
      }
    }
    d.holds("the methods are the document's: " + open, open.equals(new TreeSet<>(Arrays.asList(FACE))));
    for (Method m : ReflectModels.class.getDeclaredMethods()) {
      if (Modifier.isPrivate(m.getModifiers())) {
        d.holds(m + " bears no public name", !openNames.contains(m.getName()));
        d.holds(m + " takes seven parameters at most", m.getParameterCount() <= 7);
      }
    }
  }

  private static void constructorsAndFields() {
    d.holds("public final class", ReflectModels.class.getModifiers() == (Modifier.PUBLIC | Modifier.FINAL));
    Constructor<?>[] made = ReflectModels.class.getDeclaredConstructors();
    d.holds("one public constructor", made.length == 1 && made[0].getModifiers() == Modifier.PUBLIC
        && made[0].getParameterCount() == 0);
    Set<String> open = new TreeSet<>();
    for (Field f : ReflectModels.class.getDeclaredFields()) {
      int marks = f.getModifiers();
      if (!Modifier.isPrivate(marks)) {
        open.add(f.getName());
        d.holds(f + " is a constant", marks == (Modifier.PUBLIC | Modifier.STATIC | Modifier.FINAL));
      }
      d.holds(f + " is final, if it is static", !Modifier.isStatic(marks) || Modifier.isFinal(marks));
    }
    d.holds("the constants are the document's: " + open, open.equals(new TreeSet<>(Arrays.asList(CONSTANTS))));
  }

  private static void nestedClasses() {
    Class<?>[] inside = ReflectModels.class.getDeclaredClasses();
    d.holds("some twelve classes at most", inside.length <= 11);
    for (Class<?> c : inside) {
      d.holds(c + " is static", Modifier.isStatic(c.getModifiers()));
      for (Method m : c.getDeclaredMethods()) {
        for (String called : FACE) {
          d.holds(m + " bears no public name", !called.contains(" " + m.getName() + "("));
        }
      }
    }
  }

  private static void wordsOfTheSource() throws IOException {
    String source = Files.readString(Path.of("src/main/java/ReflectModels.java"));
    String code = source.replaceAll("(?s)/\\*.*?\\*/", " ").replaceAll("//[^\n]*", " ");
    for (String word : FORBIDDEN) {
      Matcher m = Pattern.compile("\\b" + word + "\\b").matcher(code);
      d.holds("the source does without " + word, !m.find());
    }
    d.holds("no lambda", !code.contains("->"));
    d.holds("no method reference", !code.contains("::"));
    d.holds("no text", !code.contains("\""));
    d.holds("no while", !Pattern.compile("\\bwhile\\b").matcher(code).find());
  }
}
