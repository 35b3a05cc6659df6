import java.io.IOException;
import java.lang.reflect.Constructor;
import java.lang.reflect.Field;
import java.lang.reflect.Method;
import java.lang.reflect.Modifier;
import java.nio.file.Files;
import java.nio.file.Path;
import java.util.ArrayList;
import java.util.Arrays;
import java.util.List;
import java.util.Set;
import java.util.TreeSet;
import java.util.regex.Matcher;
import java.util.regex.Pattern;

/** The face of the class is that of the document, and its source keeps to what can be seen of LANGUAGE.md. */
public final class FaceTest {
  private static final Path DOC = Path.of("../shared/DOC.md");
  private static final Path SOURCE = Path.of("src/main/java/Daycounthouse.java");
  private static final Set<String> MATH = Set.of("max", "min", "abs", "floorDiv", "floorMod");
  private static final Set<String> EXCEPTIONS = Set.of("IllegalStateException", "IllegalArgumentException",
      "IndexOutOfBoundsException", "ArithmeticException", "UnsupportedOperationException", "NoSuchElementException",
      "RuntimeException");
  /** Those of them that the machine itself cannot throw, nor anything below them. */
  private static final Set<String> CAUGHT = Set.of("IllegalStateException", "IllegalArgumentException",
      "UnsupportedOperationException", "NoSuchElementException");
  private static final Set<String> LIBRARY = Set.of("String", "StringBuilder", "ArrayList", "List", "Integer", "Long",
      "Math", "Iterator", "Iterable", "Comparable", "System", "Arrays", "Override");
  private static final Pattern METHOD =
      Pattern.compile("(?m)^ +(?:[\\w<>\\[\\], ]+ )?(\\w+)\\(([^(){};]*)\\)[^(){};=]*\\{");
  /** What looks like a method, but is none. */
  private static final Set<String> KEYWORDS = Set.of("if", "for", "while", "switch", "catch");

  /** "int roll(int, int) throws IllegalArgumentException", as the document's face has it. */
  private static Set<String> faceOfDocument() throws IOException {
    String text = Files.readString(DOC);
    String face = text.substring(text.indexOf("public final class Daycounthouse {"), text.indexOf("## Description"));
    Matcher m = Pattern.compile("public (\\w+)(?: (\\w+))?\\((.*?)\\)(?: throws (.*?))?;").matcher(face);
    Set<String> lines = new TreeSet<>();
    while (m.find()) {
      List<String> types = new ArrayList<>();
      for (String one : m.group(3).isEmpty() ? new String[0] : m.group(3).split(", ")) {
        types.add(one.split(" ")[0]);
      }
      lines.add(m.group(1) + " " + m.group(2) + types + " " + m.group(4));
    }
    return lines;
  }

  private static String line(String first, Class<?>[] types, Class<?>[] thrown) {
    List<String> names = Arrays.stream(types).map(Class::getSimpleName).toList();
    List<String> exceptions = Arrays.stream(thrown).map(Class::getSimpleName).toList();
    return first + names + " " + (exceptions.isEmpty() ? null : String.join(", ", exceptions));
  }

  private static void face() throws IOException {
    Set<String> lines = new TreeSet<>();
    Set<String> open = new TreeSet<>();
    Set<String> hidden = new TreeSet<>();
    for (Method m : Daycounthouse.class.getDeclaredMethods()) {
      if (Modifier.isPublic(m.getModifiers())) {
        String first = m.getReturnType().getSimpleName() + " " + m.getName();
        lines.add(line(first, m.getParameterTypes(), m.getExceptionTypes()));
        open.add(m.getName());
      } else {
        Check.due(m.getName() + " is private", Modifier.isPrivate(m.getModifiers()), true);
        hidden.add(m.getName());
      }
    }
    for (Constructor<?> c : Daycounthouse.class.getDeclaredConstructors()) {
      lines.add(line("Daycounthouse null", c.getParameterTypes(), c.getExceptionTypes()));
    }
    Check.due("the face", lines, faceOfDocument());
    Check.due("how many calls", lines.size(), 59);
    hidden.retainAll(open);
    Check.due("private methods with names of public ones", hidden, Set.of());
    for (Field f : Daycounthouse.class.getDeclaredFields()) {
      Check.due(f.getName() + " is private", Modifier.isPrivate(f.getModifiers()), true);
    }
    Check.due("the class is public and final", Daycounthouse.class.getModifiers(), Modifier.PUBLIC | Modifier.FINAL);
  }

  private static void classes() {
    Class<?>[] inside = Daycounthouse.class.getDeclaredClasses();
    Check.due("at most twelve classes", inside.length < 12, true);
    Set<String> open = new TreeSet<>();
    for (Method m : Daycounthouse.class.getDeclaredMethods()) {
      if (Modifier.isPublic(m.getModifiers())) {
        open.add(m.getName());
      }
    }
    for (Class<?> c : inside) {
      Check.due(c + " is private or package-visible", c.getModifiers() & (Modifier.PUBLIC | Modifier.PROTECTED), 0);
      Check.due(c + " is static", Modifier.isStatic(c.getModifiers()), true);
      int fields = 0;
      for (Field f : c.getDeclaredFields()) {
        boolean isStatic = Modifier.isStatic(f.getModifiers());
        Check.due(c + "." + f.getName() + ", if static, is final", !isStatic || Modifier.isFinal(f.getModifiers()),
            true);
        fields += isStatic ? 0 : 1;
      }
      Check.due(c + " has at most twenty fields", fields <= 20, true);
      for (Method m : c.getDeclaredMethods()) {
        boolean isHidden = Modifier.isPrivate(m.getModifiers());
        Check.due(c + "." + m.getName() + ", if private, has another name than all of the face",
            isHidden && open.contains(m.getName()), false);
      }
    }
  }

  private static void none(String source, String what, String pattern) {
    Matcher m = Pattern.compile(pattern).matcher(source);
    Check.due(what, m.find() ? m.group() : "none", "none");
  }

  /** The source without comments, and with nothing inside its texts. */
  private static String source() throws IOException {
    String text = Files.readString(SOURCE);
    Check.due("signs of 1 to 126 alone", text.chars().allMatch(c -> c >= 1 && c < 127), true);
    return text.replaceAll("(?s)/\\*.*?\\*/", "").replaceAll("//.*", "").replaceAll("\"(\\\\.|[^\"\\\\])*\"", "\"\"")
        .replaceAll("'(\\\\.|[^'\\\\])'", "' '");
  }

  private static void words(String source) {
    none(source, "package (rule 1)", "(?m)^\\s*package\\b");
    none(source.replaceAll("\\b(case [^;{}]*?|default)\\s*->", ""), "lambdas (rule 2)", "->|::");
    none(source, "what rules 6 and 10 leave out",
        "\\b(finally|synchronized|assert|native|volatile|transient|strictfp|var|getMessage)\\b");
    none(source, "texts joined by + (rule 10)", "\"\\s*\\+|\\+\\s*\"");
    none(source, "== of texts (rule 6)", "[!=]= *\"");
    none(source, "statics that are not final (rule 5)", "\\bstatic (?!final\\b)[\\w\\[\\]]+ \\w+ *[=;]");
    none(source, "static initialisers (rule 5)", "\\bstatic\\s*\\{");
    none(source, "loops without an end (rule 9)", "\\bwhile\\s*\\(true\\)|\\bfor\\s*\\([^;()]*;\\s*;");
    Matcher thrown = Pattern.compile("\\bthrow\\b.*").matcher(source);
    while (thrown.find()) {
      Matcher one = Pattern.compile("throw new (\\w+)\\((\"\")?\\);").matcher(thrown.group());
      Check.due(thrown.group() + " (rule 6)", one.matches() && EXCEPTIONS.contains(one.group(1)), true);
    }
    Matcher caught = Pattern.compile("\\bcatch\\s*\\(([\\w| ]+) \\w+\\)").matcher(source);
    while (caught.find()) {
      Check.due(caught.group() + " (rule 6)", CAUGHT.containsAll(List.of(caught.group(1).split(" *\\| *"))), true);
    }
  }

  /** Names that begin with a great letter: own ones, constants, and what rule 4 lists. */
  private static void library(String source) {
    Set<String> known = new TreeSet<>(LIBRARY);
    known.addAll(EXCEPTIONS);
    Matcher own = Pattern.compile("\\b(?:class|record|enum|interface) (\\w+)").matcher(source);
    while (own.find()) {
      known.add(own.group(1));
    }
    String code = source.replaceAll("(?m)^import java\\.util\\.(\\w+);$", "$1");
    none(code, "other packages (rule 4)", "\\b(import|java|javax)\\b");
    Matcher name = Pattern.compile("\\b[A-Z]\\w*").matcher(code);
    Set<String> other = new TreeSet<>();
    while (name.find()) {
      if (!name.group().matches("[A-Z][A-Z0-9_]*") && !known.contains(name.group())) {
        other.add(name.group());
      }
    }
    Check.due("other library (rule 4)", other, Set.of());
    none(code, "System but arraycopy (rule 4)", "\\bSystem\\.(?!arraycopy\\b)\\w+");
    none(code, "Arrays but copyOf, copyOfRange, fill (rule 4)", "\\bArrays\\.(?!(copyOf|copyOfRange|fill)\\b)\\w+");
    none(code, "static functions that throw (rule 4)", "\\b(Math|Integer|Long)\\.\\w*Exact\\b");
    Matcher math = Pattern.compile("\\bMath\\.(\\w+)").matcher(code);
    while (math.find()) {
      Check.due("Math." + math.group(1) + " (rule 4)", MATH.contains(math.group(1)), true);
    }
  }

  private static int closing(String source, int open) {
    int depth = 0;
    for (int i = open; i < source.length(); i++) {
      depth += source.charAt(i) == '{' ? 1 : source.charAt(i) == '}' ? -1 : 0;
      if (depth == 0) {
        return i;
      }
    }
    return source.length();
  }

  private static void lengths(String source) {
    Matcher method = METHOD.matcher(source);
    int found = 0;
    while (method.find()) {
      if (KEYWORDS.contains(method.group(1))) {
        continue;
      }
      found++;
      String body = source.substring(method.end() - 1, closing(source, method.end() - 1));
      Check.due(method.group(1) + " has some sixty lines at most (rule 11)", body.lines().count() <= 65, true);
      Check.due(method.group(1) + " takes at most seven (rule 11)", method.group(2).split(",").length <= 7, true);
    }
    Check.due("all methods were found", found >= 59, true);
  }

  public static void main(String[] args) throws IOException {
    face();
    classes();
    String source = source();
    words(source);
    library(source);
    lengths(source);
    Check.finish("FaceTest");
  }

  private FaceTest() {}
}
