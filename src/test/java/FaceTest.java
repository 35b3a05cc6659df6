import java.io.IOException;
import java.lang.reflect.Constructor;
import java.lang.reflect.Field;
import java.lang.reflect.Method;
import java.lang.reflect.Modifier;
import java.nio.file.Files;
import java.nio.file.Path;
import java.util.ArrayList;
import java.util.Arrays;
import java.util.List;
import java.util.Set;
import java.util.TreeSet;
import java.util.regex.Matcher;
import java.util.regex.Pattern;

/** The face of the class is that of the document, and its source keeps to what can be seen of LANGUAGE.md. */
public final class FaceTest {
  private static final Path DOC = Path.of("../shared/DOC.md");
  private static final Path SOURCE = Path.of("src/main/java/Daycounthouse.java");
  private static final Set<String> MATH = Set.of("max", "min", "abs", "floorDiv", "floorMod");

  /** "int roll(int, int) throws IllegalArgumentException", as the document's face has it. */
  private static Set<String> faceOfDocument() throws IOException {
    String text = Files.readString(DOC);
    String face = text.substring(text.indexOf("public final class Daycounthouse {"), text.indexOf("## Description"));
    Matcher m = Pattern.compile("public (\\w+)(?: (\\w+))?\\((.*?)\\)(?: throws (.*?))?;").matcher(face);
    Set<String> lines = new TreeSet<>();
    while (m.find()) {
      List<String> types = new ArrayList<>();
      for (String one : m.group(3).isEmpty() ? new String[0] : m.group(3).split(", ")) {
        types.add(one.split(" ")[0]);
      }
      lines.add(m.group(1) + " " + m.group(2) + types + " " + m.group(4));
    }
    return lines;
  }

  private static String line(String first, Class<?>[] types, Class<?>[] thrown) {
    List<String> names = Arrays.stream(types).map(Class::getSimpleName).toList();
    List<String> exceptions = Arrays.stream(thrown).map(Class::getSimpleName).toList();
    return first + names + " " + (exceptions.isEmpty() ? null : String.join(", ", exceptions));
  }

  private static void face() throws IOException {
    Set<String> lines = new TreeSet<>();
    Set<String> open = new TreeSet<>();
    Set<String> hidden = new TreeSet<>();
    for (Method m : Daycounthouse.class.getDeclaredMethods()) {
      if (Modifier.isPublic(m.getModifiers())) {
        String first = m.getReturnType().getSimpleName() + " " + m.getName();
        lines.add(line(first, m.getParameterTypes(), m.getExceptionTypes()));
        open.add(m.getName());
      } else {
        Check.due(m.getName() + " is private", Modifier.isPrivate(m.getModifiers()), true);
        hidden.add(m.getName());
      }
    }
    for (Constructor<?> c : Daycounthouse.class.getDeclaredConstructors()) {
      lines.add(line("Daycounthouse null", c.getParameterTypes(), c.getExceptionTypes()));
    }
    Check.due("the face", lines, faceOfDocument());
    Check.due("how many calls", lines.size(), 59);
    hidden.retainAll(open);
    Check.due("private methods with names of public ones", hidden, Set.of());
    for (Field f : Daycounthouse.class.getDeclaredFields()) {
      Check.due(f.getName() + " is private", Modifier.isPrivate(f.getModifiers()), true);
    }
    Check.due("the class is public and final", Daycounthouse.class.getModifiers(), Modifier.PUBLIC | Modifier.FINAL);
  }

  private static void classes() {
    Class<?>[] inside = Daycounthouse.class.getDeclaredClasses();
    Check.due("at most twelve classes", inside.length < 12, true);
    Set<String> open = new TreeSet<>();
    for (Method m : Daycounthouse.class.getDeclaredMethods()) {
      if (Modifier.isPublic(m.getModifiers())) {
        open.add(m.getName());
      }
    }
    for (Class<?> c : inside) {
      Check.due(c + " is private and static", c.getModifiers() & (Modifier.PRIVATE | Modifier.STATIC),
          Modifier.PRIVATE | Modifier.STATIC);
      int fields = 0;
      for (Field f : c.getDeclaredFields()) {
        boolean isStatic = Modifier.isStatic(f.getModifiers());
        Check.due(c + "." + f.getName() + ", if static, is final", !isStatic || Modifier.isFinal(f.getModifiers()),
            true);
        fields += isStatic ? 0 : 1;
      }
      Check.due(c + " has at most twenty fields", fields <= 20, true);
      for (Method m : c.getDeclaredMethods()) {
        Check.due(c + "." + m.getName() + " has another name than all of the face", open.contains(m.getName()), false);
        Check.due(c + "." + m.getName() + " takes at most seven", m.getParameterCount() <= 7, true);
      }
    }
  }

  private static void none(String source, String what, String pattern) {
    Matcher m = Pattern.compile(pattern).matcher(source);
    Check.due(what, m.find() ? m.group() : "none", "none");
  }

  private static void words() throws IOException {
    String text = Files.readString(SOURCE);
    Check.due("signs of 1 to 126 alone", text.chars().allMatch(c -> c == '\n' || (c >= 32 && c < 127)), true);
    String source = text.replaceAll("(?s)/\\*.*?\\*/", "").replaceAll("//.*", "");
    none(source, "import, package", "\\b(import|package)\\b");
    none(source, "what rule 2 and 6 leave out",
        "->|::|\\b(try|catch|finally|synchronized|assert|native|volatile|transient|strictfp|instanceof|var|yield)\\b");
    none(source, "doubles and floats", "\\b(double|float|Double|Float)\\b");
    none(source, "texts joined by +", "\"\\s*\\+|\\+\\s*\"");
    none(source, "== of texts", "[!=]= *\"");
    none(source, "other library", "\\b(Integer|Long|Arrays|List|ArrayList|Object|Character|Boolean|java)\\b");
    none(source, "System but arraycopy", "\\bSystem\\.(?!arraycopy\\b)");
    none(source, "statics that are not final", "\\bstatic (?!final\\b)[\\w\\[\\]]+ \\w+ *[=;]");
    Matcher math = Pattern.compile("\\bMath\\.(\\w+)").matcher(source);
    while (math.find()) {
      Check.due("Math." + math.group(1), MATH.contains(math.group(1)), true);
    }
    Matcher thrown = Pattern.compile("\\bthrow\\b.*").matcher(source);
    while (thrown.find()) {
      boolean isRight = thrown.group()
          .matches("throw new (IllegalArgument|IllegalState|IndexOutOfBounds)Exception\\(\\);");
      Check.due(thrown.group(), isRight, true);
    }
  }

  private static void lengths() throws IOException {
    int start = 0;
    int number = 0;
    for (String line : Files.readAllLines(SOURCE)) {
      number++;
      Check.due("line " + number + " has at most 120 signs", line.length() <= 120, true);
      if (line.matches(" {2,4}\\w.*\\{") && !line.contains("class ")) {
        start = number;
      }
      if (line.matches(" {2,4}\\}") && start > 0) {
        Check.due("the method of line " + start + " has at most 60 lines", number - start < 60, true);
        start = 0;
      }
    }
  }

  public static void main(String[] args) throws IOException {
    face();
    classes();
    words();
    lengths();
    Check.finish("FaceTest");
  }

  private FaceTest() {}
}
