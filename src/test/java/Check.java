import java.util.Objects;

/** Counts what is not as it is due; a test ends with its finish. */
final class Check {
  private static int wrong;
  private static int asked;

  /** A call that may throw. */
  interface Call {
    Object run();
  }

  static void due(String what, Object got, Object want) {
    asked++;
    if (!Objects.equals(got, want)) {
      wrong++;
      System.out.println(what + " answered " + got + ", due is " + want);
    }
  }

  /** What the call answers, or the class that it throws. */
  static Object answer(Call call) {
    try {
      return call.run();
    } catch (RuntimeException e) {
      return e.getClass();
    }
  }

  static void argument(String what, Call call) {
    due(what, answer(call), IllegalArgumentException.class);
  }

  static void state(String what, Call call) {
    due(what, answer(call), IllegalStateException.class);
  }

  static void index(String what, Call call) {
    due(what, answer(call), IndexOutOfBoundsException.class);
  }

  static void finish(String test) {
    System.out.println(test + ": " + asked + " answers, " + wrong + " wrong");
    if (wrong > 0) {
      System.exit(1);
    }
  }

  private Check() {}
}
