import java.util.Objects;

/** Counts what is not as it is due; a test ends with its finish. */
final class Check {
  private static int wrong;
  private static int asked;

  /** A call that may throw. */
  interface Call {
    Object run();
  }

  static void due(String what, Object got, Object want) {
    asked++;
    if (!Objects.equals(got, want)) {
      wrong++;
      System.out.println(what + " answered " + got + ", due is " + want);
    }
  }

  /** What the call answers, or the class that it throws. */
  static Object answer(Call call) {
    try {
      return call.run();
    } catch (RuntimeException e) {
      return e.getClass();
    }
  }

  /** A call that throws must also leave the house as it was. */
  private static void throwing(Daycounthouse x, Class<?> type, String what, Call call) {
    long before = x.digest();
    due(what, answer(call), type);
    due(what + " leaves all as it was", x.digest(), before);
  }

  static void argument(Daycounthouse x, String what, Call call) {
    throwing(x, IllegalArgumentException.class, what, call);
  }

  static void state(Daycounthouse x, String what, Call call) {
    throwing(x, IllegalStateException.class, what, call);
  }

  static void index(Daycounthouse x, String what, Call call) {
    throwing(x, IndexOutOfBoundsException.class, what, call);
  }

  static void finish(String test) {
    System.out.println(test + ": " + asked + " answers, " + wrong + " wrong");
    if (wrong > 0) {
      System.exit(1);
    }
  }

  private Check() {}
}
