import java.io.IOException;
import java.io.StringWriter;
import java.net.URL;
import java.net.URLClassLoader;
import java.nio.file.Files;
import java.nio.file.Path;
import java.util.ArrayList;
import java.util.List;
import java.util.Set;
import java.util.TreeSet;
import java.util.regex.Matcher;
import java.util.regex.Pattern;
import java.util.stream.Stream;
import javax.tools.JavaCompiler;
import javax.tools.StandardJavaFileManager;
import javax.tools.ToolProvider;

/** The example of README.md compiles as it stands, each call answers what stands behind it, and all tests are named. */
public final class ReadmeTest {
  private static final Path README = Path.of("README.md");
  private static final Path TESTS = Path.of("src/test/java");
  /** A call, perhaps with a name for its answer; then the answer, and perhaps what it means. */
  private static final Pattern CALL = Pattern.compile(
      "(?:int (\\w+) = )?(house\\.\\w+\\(.*\\)); +// (\"[^\"]*\"|-?\\d+|true|false|\\w+Exception)(?:: \\S.*)?");
  private static final Pattern MAKER = Pattern.compile("Daycounthouse house = new Daycounthouse\\(\\);");

  private static List<String> example(String readme) {
    List<String> lines = new ArrayList<>();
    Matcher block = Pattern.compile("(?s)```java\n(.*?)```").matcher(readme);
    while (block.find()) {
      lines.addAll(List.of(block.group(1).split("\n")));
    }
    return lines;
  }

  /** One method with the example as it stands, and one that keeps what each call answers. */
  private static String program(List<String> lines) {
    StringBuilder shown = new StringBuilder();
    StringBuilder kept = new StringBuilder();
    for (String line : lines) {
      shown.append(line).append('\n');
      Matcher call = CALL.matcher(line);
      if (!call.matches()) {
        kept.append(line).append('\n');
      } else if (call.group(1) != null) {
        kept.append("int ").append(call.group(1)).append(" = ").append(call.group(2)).append(";\n");
        kept.append("all.add(String.valueOf(").append(call.group(1)).append("));\n");
      } else {
        kept.append("try { Object one = ").append(call.group(2)).append("; all.add(one instanceof String ? '\"' + ")
            .append("(String) one + '\"' : String.valueOf(one)); }\n")
            .append("catch (RuntimeException e) { all.add(e.getClass().getSimpleName()); }\n");
      }
    }
    return "public final class ReadmeExample implements java.util.function.Supplier<java.util.List<String>> {\n"
        + "static void shown() {\n" + shown + "}\n"
        + "public java.util.List<String> get() {\njava.util.List<String> all = new java.util.ArrayList<>();\n" + kept
        + "return all;\n}\n}\n";
  }

  private static boolean compile(Path folder, String text) throws IOException {
    Path file = folder.resolve("ReadmeExample.java");
    Files.writeString(file, text);
    JavaCompiler compiler = ToolProvider.getSystemJavaCompiler();
    StringWriter said = new StringWriter();
    try (StandardJavaFileManager files = compiler.getStandardFileManager(null, null, null)) {
      String classes = System.getProperty("java.class.path");
      List<String> options = List.of("-proc:none", "-cp", classes, "-d", folder.toString());
      boolean isDone = compiler.getTask(said, files, null, options, null, files.getJavaFileObjects(file)).call();
      Check.due("the compiler of the example", said.toString(), "");
      return isDone;
    }
  }

  @SuppressWarnings("unchecked")
  private static List<String> answers(Path folder) throws IOException {
    URL[] places = {folder.toUri().toURL()};
    try (URLClassLoader loader = new URLClassLoader(places)) {
      Object example = loader.loadClass("ReadmeExample").getConstructor().newInstance();
      return ((java.util.function.Supplier<List<String>>) example).get();
    } catch (ReflectiveOperationException e) {
      throw new IllegalStateException(e);
    }
  }

  private static void remove(Path folder) throws IOException {
    try (Stream<Path> all = Files.list(folder)) {
      for (Path one : all.toList()) {
        Files.delete(one);
      }
    }
    Files.delete(folder);
  }

  private static void example(List<String> lines) throws IOException {
    List<String> calls = new ArrayList<>();
    List<String> dues = new ArrayList<>();
    for (String line : lines) {
      Matcher call = CALL.matcher(line);
      if (call.matches()) {
        calls.add(line);
        dues.add(call.group(3));
      } else {
        boolean isOther = line.isBlank() || line.startsWith("// ") || MAKER.matcher(line).matches();
        Check.due("a call of the example without its answer: " + line, isOther, true);
      }
    }
    Check.due("many calls", calls.size() > 30, true);
    Path folder = Files.createTempDirectory("readme");
    try {
      List<String> got = compile(folder, program(lines)) ? answers(folder) : List.of();
      Check.due("how many answers", got.size(), dues.size());
      for (int i = 0; i < got.size() && i < dues.size(); i++) {
        Check.due("README.md: " + calls.get(i), got.get(i), dues.get(i));
      }
    } finally {
      remove(folder);
    }
  }

  private static void names(String readme) throws IOException {
    Set<String> named = new TreeSet<>();
    Matcher name = Pattern.compile("\\b[A-Z]\\w*Test\\b").matcher(readme);
    while (name.find()) {
      named.add(name.group());
    }
    Set<String> there = new TreeSet<>();
    try (Stream<Path> all = Files.list(TESTS)) {
      all.map(p -> p.getFileName().toString()).filter(n -> n.endsWith("Test.java"))
          .forEach(n -> there.add(n.substring(0, n.length() - ".java".length())));
    }
    Check.due("the tests that README.md names", named, there);
    Check.due(".ci/run can be run", Files.isExecutable(Path.of(".ci/run")), true);
    Check.due("README.md names it", readme.contains("```sh\n.ci/run\n```"), true);
  }

  public static void main(String[] args) throws IOException {
    String readme = Files.readString(README);
    example(example(readme));
    names(readme);
    Check.finish("ReadmeTest");
  }

  private ReadmeTest() {}
}
