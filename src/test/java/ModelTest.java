import java.lang.reflect.InvocationTargetException;
import java.lang.reflect.Method;
import java.util.Arrays;
import java.util.HashMap;
import java.util.Map;
import java.util.Random;

/** Runs of calls by a fixed seed, each on a Daycounthouse and on a SlowHouse, which must answer alike. */
public final class ModelTest {
  private static final Map<String, Method> FAST = methods(Daycounthouse.class);
  private static final Map<String, Method> SLOW = methods(SlowHouse.class);
  private static final String[] CHANGES = {"feast", "moving", "unfeast", "round", "step", "step", "schedule", "loan",
      "holiday", "early", "early", "change", "change", "late", "order", "pay", "pay", "pay", "bond", "sink", "sink",
      "call", "call", "reset", "link", "ex", "quote", "quote", "unquote", "type", "wipe", "terms", "undo", "knock"};
  private static final String[] ASKS = {"day", "date", "weekDay", "isBank", "roll", "later", "banks", "share", "simple",
      "grown", "stepped", "row", "period", "planned", "all", "rateOf", "owes", "owes", "flow", "accrued", "accrued",
      "price", "price", "yieldOf", "yieldOf", "worst", "worst", "duration", "duration", "factor", "forward", "par",
      "swap", "split", "fault", "house"};

  private static Random random;
  private static int base;
  /** Asked for what is there, so that most calls mean something that is. */
  private static SlowHouse known;

  private static Map<String, Method> methods(Class<?> type) {
    Map<String, Method> map = new HashMap<>();
    for (Method m : type.getDeclaredMethods()) {
      if (java.lang.reflect.Modifier.isPublic(m.getModifiers())) {
        map.put(m.getName(), m);
      }
    }
    return map;
  }

  private static Object ask(Method method, Object house, Object[] args) {
    try {
      return method.invoke(house, args);
    } catch (InvocationTargetException e) {
      return e.getCause().getClass();
    } catch (IllegalAccessException e) {
      throw new IllegalStateException(e);
    }
  }

  private static int in(int least, int most) {
    return least + random.nextInt(most - least + 1);
  }

  private static boolean isOneIn(int n) {
    return random.nextInt(n) == 0;
  }

  /** Mostly from least to most, its ends often, now and then a little or far beyond. */
  private static int near(int least, int most) {
    return switch (random.nextInt(40)) {
      case 0 -> least - 1;
      case 1 -> most + 1;
      case 2, 3 -> least;
      case 4, 5 -> most;
      case 6 -> isOneIn(4) ? (isOneIn(2) ? Integer.MIN_VALUE : Integer.MAX_VALUE) : in(least, most);
      default -> in(least, most);
    };
  }

  private static int day() {
    return switch (random.nextInt(9)) {
      case 0 -> near(0, 36524);
      case 3 -> monthEnd() + in(-2, 1);
      case 1 -> in(36400, 36524);
      case 2 -> in(0, 100);
      default -> Math.min(36524, base + in(-5, 900));
    };
  }

  private static int monthEnd() {
    java.time.LocalDate date = SlowHouse.dateOf(Math.min(36524, base + in(0, 900)));
    return SlowHouse.dayOf(date.withDayOfMonth(date.lengthOfMonth()));
  }

  private static int day(int[] earlier) {
    int day = day();
    return earlier != null && day < earlier[0] && !isOneIn(10) ? earlier[0] + in(0, 700) : day;
  }

  private static int sum(int most) {
    return isOneIn(3) ? in(0, 60) : near(0, most);
  }

  private static int rate() {
    return isOneIn(8) ? 0 : isOneIn(3) ? near(0, 9999) : in(100, 1200);
  }

  /** A LOAN (of 3) or a BOND (of 4) that is there, mostly. */
  private static int one(int what) {
    int count = known.house(what);
    return count == 0 || isOneIn(40) ? near(0, 3) : in(0, count - 1);
  }

  private static int periodsOf(int what, int one) {
    Object count = Check.answer(() -> what == 3 ? known.all(one, 5) : known.periodsOfBond(one));
    return count instanceof Integer n ? n : 1;
  }

  private static int k(int what, int one) {
    return isOneIn(25) ? near(0, 25) : in(1, periodsOf(what, one));
  }

  /** A day near to the end of a PERIOD of a LOAN or BOND. */
  private static int dayOf(int what, int one) {
    int k = in(1, periodsOf(what, one));
    Object end = Check.answer(() -> what == 3 ? known.planned(one, k, 0) : known.flow(one, k, 0));
    int behind = isOneIn(2) ? in(-8, 8) : in(-60, 65);
    return end instanceof Integer e && !isOneIn(15) ? e + behind : day();
  }

  private static int sign() {
    return isOneIn(25) ? near(0, 16) : in(0, 16);
  }

  private static Object[] schedule() {
    int months = isOneIn(20) ? near(1, 24) : new int[] {1, 2, 3, 6, 12, 24}[in(0, 5)];
    base = isOneIn(9) ? in(0, 36524) : isOneIn(9) ? in(0, 9) : base;
    int from = isOneIn(20) ? day() : Math.min(36524, base + in(0, 40));
    int length = in(1, isOneIn(3) ? 25 : 8) * Math.max(1, Math.min(months, 24)) * 30 + in(-29, 29);
    int to = isOneIn(20) ? day() : Math.min(36524, from + length);
    return args(from, to, months, random.nextBoolean(), random.nextBoolean(), isOneIn(20) ? near(0, 4) : in(0, 4));
  }

  private static Object[] args(Object... args) {
    return args;
  }

  private static Object[] argsOf(String name) {
    int a = day();
    int b = day(new int[] {a});
    switch (name) {
      case "day": return args(near(2000, 2099), near(1, 12), near(1, 31));
      case "date": case "weekDay": case "isBank": case "period": return args(a);
      case "feast": return args(near(1, 12), near(1, 31));
      case "moving": return args(near(-60, 60));
      case "round": return args(near(0, 3));
      case "roll": return args(a, near(0, 4));
      case "later": return args(a, isOneIn(2) ? in(-40, 40) : near(-1200, 1200), random.nextBoolean());
      case "banks": return args(a, b);
      case "share": return args(a, b, near(0, 7));
      case "simple": return args(sum(999999), rate(), a, b, near(0, 7));
      case "grown": return args(sum(999999), rate(), isOneIn(2) ? in(0, 5) : near(0, 60), near(1, 365),
          random.nextBoolean());
      case "step": return args(isOneIn(3) ? base + in(0, 6) : a, isOneIn(5) ? -1 : rate());
      case "stepped": return args(sum(999999), a, b, near(0, 7));
      case "schedule": return schedule();
      case "loan": return args(isOneIn(3) ? in(1, 50) : near(1, 999999), rate(), near(0, 2), near(0, 7));
      case "late": return args(near(0, 9999), isOneIn(2) ? near(0, 60) : in(0, 8));
      case "order": return args(near(0, 5));
      case "bond": return args(isOneIn(3) ? in(1, 50) : near(1, 999999), rate());
      case "quote": return args(isOneIn(2) ? in(0, 9) : near(0, 50), isOneIn(2) ? in(70, 120) : near(1, 200));
      case "factor": case "forward": case "par": return args(in(-1, known.house(5) + 1));
      case "swap": return args(near(0, 50), in(0, known.house(5) + 1));
      case "split": return args(sum(999999), sum(999999), sum(999999), random.nextBoolean());
      case "type": return args(sign());
      case "house": return args(near(0, 11));
      default: return loanArgsOf(name, one(3));
    }
  }

  private static Object[] loanArgsOf(String name, int loan) {
    switch (name) {
      case "holiday": return args(loan, isOneIn(4) ? near(0, 24) : in(0, periodsOf(3, loan) - 1));
      case "early": return args(loan, k(3, loan), sum(isOneIn(2) ? 5000 : 999999));
      case "change": return args(loan, k(3, loan), isOneIn(5) ? -1 : rate());
      case "planned": return args(loan, k(3, loan), near(0, 5));
      case "all": return args(loan, near(0, 5));
      case "rateOf": return args(loan);
      case "pay": return args(loan, dayOf(3, loan), isOneIn(3) ? near(1, 999999) : in(1, 3000));
      case "owes": return args(loan, dayOf(3, loan), near(0, 5));
      default: return bondArgsOf(name, one(4));
    }
  }

  private static Object[] bondArgsOf(String name, int bond) {
    switch (name) {
      case "sink": return args(bond, k(4, bond), sum(isOneIn(2) ? 5000 : 999999));
      case "call": return args(bond, k(4, bond), isOneIn(5) ? -1 : near(50, 200));
      case "reset": return args(bond, k(4, bond), isOneIn(5) ? -1 : rate());
      case "link": return args(bond, k(4, bond), isOneIn(5) ? -1 : near(1, 999));
      case "ex": return args(bond, near(0, 60));
      case "flow": return args(bond, k(4, bond), near(0, 4));
      case "accrued": return args(bond, dayOf(4, bond));
      case "price": case "duration":
        return args(bond, dayOf(4, bond), isOneIn(3) ? near(0, 999999) : in(0, 60000));
      case "yieldOf": case "worst":
        return args(bond, dayOf(4, bond), isOneIn(6) ? near(1, 99999999) : aboutWorth(bond));
      default: return args();
    }
  }

  /** A price that some yield has, mostly. */
  private static int aboutWorth(int bond) {
    Object price = Check.answer(() -> known.price(bond, known.flow(bond, 1, 0) - 1, 20000));
    return price instanceof Integer p ? Math.max(1, p + in(-p / 3, p / 9)) : in(1, 999999);
  }

  private static void both(int run, Daycounthouse fast, SlowHouse slow, String name, Object... args) {
    Object want = ask(SLOW.get(name), slow, args);
    Object got = ask(FAST.get(name), fast, args);
    Check.due("run " + run + ": " + name + Arrays.toString(args), got, want);
  }

  /** A slip that is mostly right, since signs by chance hardly ever are. */
  private static void typeTerms(int run, Daycounthouse fast, SlowHouse slow) {
    both(run, fast, slow, "wipe");
    boolean isBond = random.nextBoolean();
    String text = (isBond ? "B" : "L") + in(1, isOneIn(9) ? 9999999 : 999999) + "," + in(0, isOneIn(9) ? 19999 : 999)
        + "%" + (isBond ? "" : "ape".charAt(in(0, 2)));
    for (char c : text.toCharArray()) {
      both(run, fast, slow, "type", isOneIn(90) ? in(0, 16) : "0123456789LB,%ape".indexOf(c));
      if (isOneIn(5)) {
        both(run, fast, slow, "fault");
      }
    }
    both(run, fast, slow, "terms");
  }

  private static void run(int seed, int calls) {
    random = new Random(seed);
    base = in(0, 30000);
    Daycounthouse fast = new Daycounthouse();
    SlowHouse slow = new SlowHouse();
    known = slow;
    for (int i = 0; i < calls; i++) {
      if (isOneIn(40)) {
        typeTerms(seed, fast, slow);
      }
      String name = random.nextBoolean() ? CHANGES[in(0, CHANGES.length - 1)] : ASKS[in(0, ASKS.length - 1)];
      if (name.equals("undo") || name.equals("unfeast") || name.equals("unquote")) {
        name = isOneIn(2) ? name : "schedule";
      }
      both(seed, fast, slow, name, argsOf(name));
      if (isOneIn(60)) {
        both(seed, fast, slow, "digest");
      }
    }
    both(seed, fast, slow, "isSound");
    both(seed, fast, slow, "digest");
  }

  public static void main(String[] args) {
    int runs = args.length > 0 ? Integer.parseInt(args[0]) : 150;
    int first = args.length > 1 ? Integer.parseInt(args[1]) : 1;
    for (int seed = first; seed < first + runs; seed++) {
      run(seed, 250);
    }
    Check.finish("ModelTest");
  }

  private ModelTest() {}
}
