import java.io.IOException;
import java.io.UncheckedIOException;
import java.math.BigInteger;
import java.nio.file.Files;
import java.nio.file.Path;
import java.util.ArrayList;
import java.util.List;
import java.util.Objects;
import java.util.function.Consumer;
import java.util.function.Function;
import java.util.function.Supplier;

/**
 * What the tests of boundary cases share. Each test bears the number of a promise and a sentence, which must stand in
 * the document, in that promise or ahead of all of them; finish also asks that no sentence is left without a test.
 */
abstract class Edges {
  static final int MIN = Integer.MIN_VALUE;
  static final int MAX = Integer.MAX_VALUE;
  static final int NONE = -1;
  static final int REFUSED = -9;
  static final int LAST_DAY = 36524;
  static final Class<?> ARGUMENT = IllegalArgumentException.class;
  static final Class<?> STATE = IllegalStateException.class;
  static final Class<?> INDEX = IndexOutOfBoundsException.class;
  private static final String TEXT = read();
  private static final List<String> QUOTED = new ArrayList<>();
  private static int asked;
  private static int wrong;
  private static String title = "";

  /** A call with one number that is tried at its limits. */
  interface Told {
    Object on(Daycounthouse x, int value);
  }

  // ---- the document

  private static String read() {
    try {
      return Files.readString(Path.of("../shared/DOC.md"));
    } catch (IOException e) {
      throw new UncheckedIOException(e);
    }
  }

  private static String folded(String text) {
    return text.replaceAll("\\s+", " ").trim();
  }

  private static String between(String start, String end) {
    int from = TEXT.indexOf(start);
    int to = TEXT.indexOf(end, from + 1);
    return from < 0 || to < 0 ? "" : TEXT.substring(from + start.length(), to);
  }

  private static String promise(int number) {
    return between("## Promise " + number + ":", number == 59 ? "## Not promised" : "## Promise " + (number + 1) + ":");
  }

  /** Part 0 is what stands ahead of the part 1 and behind the part 5. */
  private static String part(int number) {
    String[] parts = between("## Description", "## Promise 1:").split("\n== [1-5]\\. [^\n]*\n");
    int end = parts[5].indexOf("\nA method that throws");
    return switch (number) {
      case 0 -> parts[0] + parts[5].substring(end);
      case 5 -> parts[5].substring(0, end);
      default -> parts[number];
    };
  }

  /** The lines of a promise that say something, without its heading, signature and parameters. */
  private static List<String> statements(int number) {
    List<String> all = new ArrayList<>();
    String[] lines = promise(number).split("\n");
    for (int i = 1; i < lines.length; i++) {
      if (lines[i].matches("[A-Z].*")) {
        all.add(folded(lines[i]));
      }
    }
    return all;
  }

  private static String[] sentences(String text) {
    return folded(text).split("(?<=\\.|\\.\\)) (?=[A-Z0-9(\"-])");
  }

  private static boolean isInDocument(int promise, String sentence) {
    return folded(promise(promise)).contains(sentence)
        || folded(between("## Description", "## Promise 1:")).contains(sentence)
        || folded(between("## What it is", "## The public face")).contains(sentence);
  }

  // ---- tests and answers

  /** A test of one sentence, on a house of its own. */
  static void test(int promise, String sentence, Consumer<Daycounthouse> body) {
    title = "promise " + promise + ", \"" + sentence + "\"";
    due(isInDocument(promise, sentence), true);
    QUOTED.add(sentence);
    try {
      body.accept(new Daycounthouse());
    } catch (RuntimeException e) {
      fail("threw " + e + " at " + e.getStackTrace()[0]);
    }
  }

  private static void fail(String what) {
    wrong++;
    System.out.println(title + " " + what);
  }

  /** The line of the test that asked. */
  private static String place() {
    return StackWalker.getInstance().walk(frames -> frames
        .filter(f -> f.getClassName().startsWith("EdgesOf")).findFirst()
        .map(f -> "line " + f.getLineNumber()).orElse("?"));
  }

  static void due(Object got, Object want) {
    asked++;
    if (!Objects.equals(got, want)) {
      fail(place() + " answered " + got + ", due is " + want);
    }
  }

  /** What a house tells of itself. */
  static String look(Daycounthouse x) {
    StringBuilder text = new StringBuilder();
    for (int what = 0; what <= 11; what++) {
      text.append(x.house(what)).append(' ');
    }
    return text.append(x.row()).append(' ').append(x.digest()).toString();
  }

  /** What the call answers, or the class that it throws. */
  static Object answer(Daycounthouse x, Function<Daycounthouse, Object> call) {
    try {
      return call.apply(x);
    } catch (RuntimeException e) {
      return e.getClass();
    }
  }

  /** The call answers that, or throws that class; and nothing of the house is other than before. */
  static void still(Daycounthouse x, Object want, Function<Daycounthouse, Object> call) {
    String before = look(x);
    due(answer(x, call), want);
    due(look(x), before);
  }

  static void argument(Daycounthouse x, Function<Daycounthouse, Object> call) {
    still(x, ARGUMENT, call);
  }

  static void state(Daycounthouse x, Function<Daycounthouse, Object> call) {
    still(x, STATE, call);
  }

  static void index(Daycounthouse x, Function<Daycounthouse, Object> call) {
    still(x, INDEX, call);
  }

  // ---- exact numbers

  /** The upper and the lower number of a FRACTION. */
  static BigInteger[] parts(String fraction) {
    String[] both = fraction.split("/");
    return new BigInteger[] {new BigInteger(both[0]), new BigInteger(both[1])};
  }

  /** A fraction that is 0 or more, ROUNDED. */
  static int rounded(BigInteger top, BigInteger bottom, int mode) {
    BigInteger[] whole = top.divideAndRemainder(bottom);
    int half = whole[1].shiftLeft(1).compareTo(bottom);
    boolean isUp = switch (mode) {
      case 0 -> false;
      case 1 -> half >= 0;
      case 2 -> half > 0 || half == 0 && whole[0].testBit(0);
      default -> whole[1].signum() > 0;
    };
    return whole[0].intValueExact() + (isUp ? 1 : 0);
  }

  // ---- limits

  /** The numbers nearest to the limits that are not let, and those at the ends of int. */
  private static int[] outside(int least, int most) {
    return new int[] {least - 1, most + 1, MIN, MAX, MIN + 1, MAX - 1};
  }

  /** The last numbers that are let, with their answers, and what is not let any more. */
  static void bounds(Supplier<Daycounthouse> maker, int least, Object dueLeast, int most, Object dueMost, Told call) {
    due(answer(maker.get(), x -> call.on(x, least)), dueLeast);
    due(answer(maker.get(), x -> call.on(x, most)), dueMost);
    for (int value : outside(least, most)) {
      argument(maker.get(), x -> call.on(x, value));
    }
  }

  /** A DAY at its limits. */
  static void days(Supplier<Daycounthouse> maker, Object dueFirst, Object dueLast, Told call) {
    bounds(maker, 0, dueFirst, LAST_DAY, dueLast, call);
  }

  /** The number of a thing, of which there are the ones from the least to the most. */
  static void numbers(Supplier<Daycounthouse> maker, int least, Object dueLeast, int most, Object dueMost, Told call) {
    due(answer(maker.get(), x -> call.on(x, least)), dueLeast);
    due(answer(maker.get(), x -> call.on(x, most)), dueMost);
    for (int value : outside(least, most)) {
      index(maker.get(), x -> call.on(x, value));
    }
  }

  /** There are none of these things, thus no number is let. */
  static void noNumber(Supplier<Daycounthouse> maker, Told call) {
    for (int value : new int[] {0, 1, -1, 2, 3, MIN, MAX}) {
      index(maker.get(), x -> call.on(x, value));
    }
  }

  /** A CHANGE can be taken back, and then all is as before; the maker must leave room for one more. */
  static void change(Supplier<Daycounthouse> maker, Object want, Function<Daycounthouse, Object> call) {
    Daycounthouse x = maker.get();
    int before = x.house(10);
    String looked = look(x);
    due(answer(x, call), want);
    due(x.house(10), before + 1);
    due(answer(x, Daycounthouse::undo), before);
    due(look(x), looked);
  }

  /** Eleven CHANGES, of which ten can be taken back: the FEE is 1 then. */
  static void keepTen(Daycounthouse x) {
    for (int fee = 1; fee <= 11; fee++) {
      x.late(fee, 0);
    }
  }

  static void takeTenBack(Daycounthouse x) {
    for (int left = 9; left >= 0; left--) {
      due(answer(x, Daycounthouse::undo), left);
    }
    due(x.house(7), 1);
    state(x, Daycounthouse::undo);
  }

  /** Nothing is other, nothing more can be taken back, and the oldest of ten CHANGES is not lost. */
  static void nothing(Supplier<Daycounthouse> maker, Object want, Function<Daycounthouse, Object> call) {
    still(maker.get(), want, call);
    Daycounthouse x = maker.get();
    keepTen(x);
    still(x, want, call);
    takeTenBack(x);
  }

  static void refused(Supplier<Daycounthouse> maker, Function<Daycounthouse, Object> call) {
    nothing(maker, REFUSED, call);
  }

  // ---- the end

  private static boolean isQuoted(String statement) {
    for (String quote : QUOTED) {
      if (statement.contains(quote) || quote.contains(statement)) {
        return true;
      }
    }
    return false;
  }

  private static void mustBeTested(String statement, boolean isTested) {
    asked++;
    if (!isTested) {
      fail("has no test: " + statement);
    }
  }

  /** Ends the tests of these promises and parts; a "Throws" line must be quoted in whole, all else in part. */
  static void finish(int first, int last, int... parts) {
    for (int number = first; number <= last; number++) {
      title = "promise " + number;
      for (String line : statements(number)) {
        mustBeTested(line, line.startsWith("Throws") ? QUOTED.contains(line) : isQuoted(line));
      }
    }
    for (int number : parts) {
      title = "part " + number;
      for (String sentence : sentences(part(number))) {
        mustBeTested(sentence, isQuoted(sentence));
      }
    }
    System.out.println("boundary cases of the promises " + first + " to " + last + ": " + QUOTED.size() + " tests, "
        + asked + " answers, " + wrong + " wrong");
    if (wrong > 0) {
      System.exit(1);
    }
  }
}
