import java.lang.reflect.InvocationTargetException;
import java.lang.reflect.Method;
import java.util.Arrays;
import java.util.HashMap;
import java.util.Map;
import java.util.Random;

/** Runs of calls by a fixed seed, each on a Daycounthouse and on a SlowHouse, which must answer alike. */
public final class ModelTest {
  private static final Map<String, Method> FAST = methods(Daycounthouse.class);
  private static final Map<String, Method> SLOW = methods(SlowHouse.class);
  private static final String[] CHANGES = {"feast", "moving", "unfeast", "round", "step", "schedule", "loan", "holiday",
      "early", "change", "late", "order", "pay", "bond", "sink", "call", "reset", "link", "ex", "quote", "unquote",
      "type", "wipe", "terms", "undo", "knock"};
  private static final String[] ASKS = {"day", "date", "weekDay", "isBank", "roll", "later", "banks", "share", "simple",
      "grown", "stepped", "row", "period", "planned", "all", "rateOf", "owes", "flow", "accrued", "price", "yieldOf",
      "worst", "duration", "factor", "forward", "par", "swap", "split", "fault", "house"};

  private static Random random;
  private static int base;

  private static Map<String, Method> methods(Class<?> type) {
    Map<String, Method> map = new HashMap<>();
    for (Method m : type.getDeclaredMethods()) {
      if (java.lang.reflect.Modifier.isPublic(m.getModifiers())) {
        map.put(m.getName(), m);
      }
    }
    return map;
  }

  private static Object ask(Method method, Object house, Object[] args) {
    try {
      return method.invoke(house, args);
    } catch (InvocationTargetException e) {
      return e.getCause().getClass();
    } catch (IllegalAccessException e) {
      throw new IllegalStateException(e);
    }
  }

  private static int in(int least, int most) {
    return least + random.nextInt(most - least + 1);
  }

  private static boolean isOneIn(int n) {
    return random.nextInt(n) == 0;
  }

  /** Mostly from least to most, its ends often, now and then a little or far beyond. */
  private static int near(int least, int most) {
    return switch (random.nextInt(40)) {
      case 0 -> least - 1;
      case 1 -> most + 1;
      case 2, 3 -> least;
      case 4, 5 -> most;
      case 6 -> isOneIn(4) ? (isOneIn(2) ? Integer.MIN_VALUE : Integer.MAX_VALUE) : in(least, most);
      default -> in(least, most);
    };
  }

  private static int day() {
    return switch (random.nextInt(8)) {
      case 0 -> near(0, 36524);
      case 1 -> in(36400, 36524);
      case 2 -> in(0, 100);
      default -> Math.min(36524, base + in(-5, 900));
    };
  }

  private static int day(int[] earlier) {
    int day = day();
    return earlier != null && day < earlier[0] && !isOneIn(10) ? earlier[0] + in(0, 700) : day;
  }

  private static int sum(int most) {
    return isOneIn(3) ? in(0, 60) : near(0, most);
  }

  private static int rate() {
    return isOneIn(8) ? 0 : isOneIn(3) ? near(0, 9999) : in(100, 1200);
  }

  private static int k() {
    return isOneIn(15) ? near(0, 25) : in(1, 6);
  }

  private static int one() {
    return isOneIn(20) ? near(0, 3) : in(0, 1);
  }

  private static int sign() {
    return isOneIn(25) ? near(0, 16) : in(0, 16);
  }

  private static Object[] schedule() {
    int months = isOneIn(20) ? near(1, 24) : new int[] {1, 2, 3, 6, 12, 24}[in(0, 5)];
    base = isOneIn(6) ? in(0, 36524) : isOneIn(8) ? in(0, 9) : base;
    int long1 = in(1, Math.max(2, Math.min(24, months * 30 < 0 ? 1 : 24))) * Math.max(1, Math.min(24, months)) * 30;
    int from = isOneIn(20) ? day() : Math.min(36524, base + in(0, 40));
    int to = isOneIn(20) ? day() : Math.min(36524, from + long1 + in(-29, 29));
    return args(from, to, months, random.nextBoolean(), random.nextBoolean(), isOneIn(20) ? near(0, 4) : in(0, 4));
  }

  private static Object[] args(Object... args) {
    return args;
  }

  private static Object[] argsOf(String name) {
    int a = day();
    int b = day(new int[] {a});
    switch (name) {
      case "day": return args(near(2000, 2099), near(1, 12), near(1, 31));
      case "date": case "weekDay": case "isBank": case "period": return args(a);
      case "feast": return args(near(1, 12), near(1, 31));
      case "moving": return args(near(-60, 60));
      case "round": return args(near(0, 3));
      case "roll": return args(a, near(0, 4));
      case "later": return args(a, isOneIn(2) ? in(-40, 40) : near(-1200, 1200), random.nextBoolean());
      case "banks": return args(a, b);
      case "share": return args(a, b, near(0, 7));
      case "simple": return args(sum(999999), rate(), a, b, near(0, 7));
      case "grown": return args(sum(999999), rate(), isOneIn(2) ? in(0, 5) : near(0, 60), near(1, 365),
          random.nextBoolean());
      case "step": return args(isOneIn(3) ? base + in(0, 6) : a, isOneIn(5) ? -1 : rate());
      case "stepped": return args(sum(999999), a, b, near(0, 7));
      case "schedule": return schedule();
      case "loan": return args(isOneIn(3) ? in(1, 50) : near(1, 999999), rate(), near(0, 2), near(0, 7));
      case "holiday": return args(one(), isOneIn(4) ? near(0, 24) : in(0, 3));
      case "early": return args(one(), k(), sum(isOneIn(2) ? 5000 : 999999));
      case "change": return args(one(), k(), isOneIn(5) ? -1 : rate());
      case "planned": return args(one(), k(), near(0, 5));
      case "all": case "owes": break;
      case "rateOf": return args(one());
      case "late": return args(near(0, 9999), isOneIn(2) ? near(0, 60) : in(0, 8));
      case "order": return args(near(0, 5));
      case "pay": return args(one(), b, isOneIn(3) ? near(1, 999999) : in(1, 3000));
      case "bond": return args(isOneIn(3) ? in(1, 50) : near(1, 999999), rate());
      case "sink": return args(one(), k(), sum(999999));
      case "call": return args(one(), k(), isOneIn(5) ? -1 : near(50, 200));
      case "reset": return args(one(), k(), isOneIn(5) ? -1 : rate());
      case "link": return args(one(), k(), isOneIn(5) ? -1 : near(1, 999));
      case "ex": return args(one(), near(0, 60));
      case "flow": return args(one(), k(), near(0, 4));
      case "accrued": return args(one(), b);
      case "price": case "duration": return args(one(), b, isOneIn(3) ? near(0, 999999) : in(0, 60000));
      case "yieldOf": case "worst": return args(one(), b, isOneIn(6) ? near(1, 99999999) : in(1, 1200000));
      case "quote": return args(near(0, 50), near(1, 200));
      case "factor": case "forward": case "par": return args(near(0, 6));
      case "swap": return args(near(0, 50), near(1, 6));
      case "split": return args(sum(999999), sum(999999), sum(999999), random.nextBoolean());
      case "type": return args(sign());
      case "house": return args(near(0, 11));
      default: return args();
    }
    return name.equals("all") ? args(one(), near(0, 5)) : args(one(), b, near(0, 5));
  }

  private static void both(int run, Daycounthouse fast, SlowHouse slow, String name, Object... args) {
    Object want = ask(SLOW.get(name), slow, args);
    Object got = ask(FAST.get(name), fast, args);
    Check.due("run " + run + ": " + name + Arrays.toString(args), got, want);
  }

  /** A slip that is mostly right, since signs by chance hardly ever are. */
  private static void typeTerms(int run, Daycounthouse fast, SlowHouse slow) {
    both(run, fast, slow, "wipe");
    boolean isBond = random.nextBoolean();
    String text = (isBond ? "B" : "L") + in(1, isOneIn(9) ? 9999999 : 999999) + "," + in(0, isOneIn(9) ? 19999 : 999)
        + "%" + (isBond ? "" : "ape".charAt(in(0, 2)));
    for (char c : text.toCharArray()) {
      both(run, fast, slow, "type", isOneIn(90) ? in(0, 16) : "0123456789LB,%ape".indexOf(c));
      if (isOneIn(5)) {
        both(run, fast, slow, "fault");
      }
    }
    both(run, fast, slow, "terms");
  }

  private static void run(int seed, int calls) {
    random = new Random(seed);
    base = in(0, 30000);
    Daycounthouse fast = new Daycounthouse();
    SlowHouse slow = new SlowHouse();
    for (int i = 0; i < calls; i++) {
      if (isOneIn(40)) {
        typeTerms(seed, fast, slow);
      }
      String name = random.nextBoolean() ? CHANGES[in(0, CHANGES.length - 1)] : ASKS[in(0, ASKS.length - 1)];
      if (name.equals("undo") || name.equals("unfeast") || name.equals("unquote")) {
        name = isOneIn(2) ? name : "schedule";
      }
      both(seed, fast, slow, name, argsOf(name));
      if (isOneIn(60)) {
        both(seed, fast, slow, "digest");
      }
    }
    both(seed, fast, slow, "isSound");
    both(seed, fast, slow, "digest");
  }

  public static void main(String[] args) {
    int runs = args.length > 0 ? Integer.parseInt(args[0]) : 150;
    int first = args.length > 1 ? Integer.parseInt(args[1]) : 1;
    for (int seed = first; seed < first + runs; seed++) {
      run(seed, 250);
    }
    Check.finish("ModelTest");
  }

  private ModelTest() {}
}
