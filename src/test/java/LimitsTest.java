/** The limits that the document names, and what one object makes in its 512 calls. */
public final class LimitsTest {
  private static void limits() {
    Daycounthouse x = new Daycounthouse();
    for (int i = 1; i <= 6; i++) {
      Check.due("6 feasts", i % 2 == 0 ? x.feast(5, i) : x.moving(i), i);
    }
    Check.state(x, "a seventh feast", () -> x.feast(1, 1));
    Check.state(x, "a seventh feast", () -> x.moving(1));
    for (int i = 1; i <= 8; i++) {
      Check.due("8 steps", x.step(i * 10, i), -1);
    }
    Check.state(x, "a ninth step", () -> x.step(5, 1));
    Check.due("24 periods", x.schedule(0, 730, 1, false, false, 0), 24);
    Check.due("25 periods", x.schedule(0, 732, 1, false, false, 0), -9);
    Check.due("24 periods, from the last day back", x.schedule(1, 731, 1, true, false, 0), 24);
    Check.due("25 periods, from the last day back", x.schedule(0, 732, 1, true, false, 0), -9);
    for (int i = 0; i < 3; i++) {
      Check.due("3 loans", x.loan(1000, 500, i, i), i);
      Check.due("3 bonds", x.bond(1000, 500), i);
    }
    Check.state(x, "a fourth loan", () -> x.loan(1000, 500, 0, 0));
    Check.state(x, "a fourth bond", () -> x.bond(1000, 500));
    for (int i = 0; i < 20; i++) {
      Check.due("20 paid days", x.pay(2, 100 + i, 5), 5);
    }
    Check.state(x, "a day more", () -> x.pay(2, 99, 5));
    for (int i = 1; i <= 6; i++) {
      Check.due("6 bonds of the curve", x.quote(1, 100), i);
    }
    Check.state(x, "a seventh bond of the curve", () -> x.quote(1, 100));
    for (int i = 1; i <= 14; i++) {
      Check.due("14 signs", x.type(10), i);
    }
    Check.state(x, "a fifteenth sign", () -> x.type(10));
    for (int i = 9; i >= 0; i--) {
      Check.due("10 changes", x.undo(), i);
    }
    Check.state(x, "an eleventh change", x::undo);
  }

  /** All that is dear at once: each PERIOD with what makes a payment anew, and with a CALL. */
  private static Daycounthouse dearest() {
    Daycounthouse x = new Daycounthouse();
    for (int i = 0; i < 6; i++) {
      x.moving(i * 9);
    }
    x.schedule(10000, 10730, 1, false, false, 3);
    for (int i = 0; i < 3; i++) {
      x.loan(999999, 9999, 0, 6);
      x.bond(999999, 9999);
      for (int k = 1; k <= 24; k++) {
        x.change(i, k, 9999 - k);
        x.link(i, k, 999 - k);
        if (k < 24) {
          x.call(i, k, 200 - k);
        }
      }
      for (int k = 0; k < 5; k++) {
        x.pay(i, 10000 + k, 1);
      }
    }
    for (int i = 0; i < 6; i++) {
      x.quote(49, 199);
    }
    return x;
  }

  private static final com.sun.management.ThreadMXBean BEAN =
      (com.sun.management.ThreadMXBean) java.lang.management.ManagementFactory.getThreadMXBean();
  /** What a run of 512 calls may make: so many fields and elements, each of a byte at least. */
  private static final long ROOM = 7300000;

  private static void manyCalls() {
    Daycounthouse x = dearest();
    long digest = x.digest();
    long start = BEAN.getCurrentThreadAllocatedBytes();
    Daycounthouse y = new Daycounthouse();
    for (int i = 1; i <= 250; i++) {
      if (x.digest() != digest) {
        Check.due("many calls: the same digest", false, true);
      }
    }
    long made = BEAN.getCurrentThreadAllocatedBytes() - start;
    Check.due("an object and 250 digests make " + made + " bytes of objects", made < ROOM / 512 * 250, true);
    Check.due("a second one", y.knock(), 1);
  }

  /** Calls with another answer than a text; digest() alone makes texts on its way. */
  private static long plainCalls(Daycounthouse x) {
    long sum = x.day(2026, 1, 31) + x.weekDay(5) + x.roll(5, 3) + x.later(5, 5, true) + x.banks(0, 36524);
    for (int count = 0; count <= 7; count++) {
      sum += x.simple(999999, 9999, 0, 36524, count) + x.stepped(999999, 0, 36524, count);
    }
    for (int i = 0; i < 3; i++) {
      sum += x.planned(i, 24, 2) + x.all(i, 0) + x.rateOf(i) + x.owes(i, 36524, 0) + x.flow(i, 24, 3);
      sum += x.price(i, 10000, 5) + x.duration(i, 10000, 5) + x.yieldOf(i, 10000, 5) + x.worst(i, 10000, 5);
      sum += x.early(i, 1, 5) + x.change(i, 1, 5) + x.holiday(i, 1) + x.pay(i, 10000, 1) + x.sink(i, 1, 1);
      sum += x.call(i, 1, 100) + x.reset(i, 1, 5) + x.link(i, 1, 100) + x.ex(i, 5);
    }
    sum += x.schedule(10000, 10700, 1, true, true, 3) + x.unfeast() + x.moving(7) + x.unfeast() + x.feast(5, 5);
    sum += x.round(2) + x.step(5, 5) + x.late(5, 5) + x.order(5) + x.unquote() + x.quote(5, 100) + x.period(10001);
    sum += x.split(5, 7, 9, true) + x.wipe() + x.type(11) + x.fault() + x.undo() + x.house(5) + x.knock();
    return sum + (x.isSound() ? 1 : 0) + (x.isBank(5) ? 1 : 0);
  }

  /** The greatest numbers that the document lets in, where a long or a Wide could be too short. */
  private static void greatestNumbers() {
    for (int mode = 0; mode <= 3; mode++) {
      Daycounthouse x = new Daycounthouse();
      SlowHouse slow = new SlowHouse();
      Check.due("24 times 24 months", x.schedule(100, 17631, 24, false, false, 1), 24);
      slow.schedule(100, 17631, 24, false, false, 1);
      x.round(mode);
      slow.round(mode);
      for (int i = 0; i < 3; i++) {
        Check.due("a loan", x.loan(999999, 9999, i, 2), slow.loan(999999, 9999, i, 2));
        Check.due("a bond", x.bond(999999, 9999), slow.bond(999999, 9999));
        Check.due("its index", x.link(i, 1, 999), slow.link(i, 1, 999));
        Check.due("its call", x.call(i, 1 + i, 200), slow.call(i, 1 + i, 200));
      }
      Check.due("the digest of great numbers", x.digest(), slow.digest());
      for (int day : new int[] {100, 101, 500, 830, 831, 16000, 17630}) {
        greatestOf(x, slow, day);
      }
      for (int count = 0; count <= 7; count++) {
        x.step(count * 4000, 9999);
        slow.step(count * 4000, 9999);
        int how = count;
        Check.due("simple " + count, x.simple(999999, 9999, 0, 36524, how), slow.simple(999999, 9999, 0, 36524, how));
        Check.due("stepped " + count, x.stepped(999999, 0, 36524, how), slow.stepped(999999, 0, 36524, how));
      }
      for (int perYear : new int[] {1, 2, 12, 364, 365}) {
        for (boolean isEach : new boolean[] {false, true}) {
          Check.due("grown by " + perYear, x.grown(999999, 9999, 60, perYear, isEach),
              slow.grown(999999, 9999, 60, perYear, isEach));
        }
      }
    }
  }

  private static void greatestOf(Daycounthouse x, SlowHouse slow, int day) {
    for (int gain : new int[] {0, 1, 500000, 999998, 999999}) {
      Check.due("price on " + day + " by " + gain, x.price(0, day, gain), slow.price(0, day, gain));
      Check.due("duration on " + day + " by " + gain, x.duration(0, day, gain), slow.duration(0, day, gain));
    }
    int most = x.price(0, day, 0);
    for (int price : new int[] {1, 999999, 30000000, Math.min(99999999, most), 99999999}) {
      Check.due("yieldOf on " + day + " of " + price, x.yieldOf(0, day, price), slow.yieldOf(0, day, price));
      Check.due("worst on " + day + " of " + price, x.worst(0, day, price), slow.worst(0, day, price));
    }
    Check.due("accrued on " + day, x.accrued(0, day), slow.accrued(0, day));
  }

  private static void plainCallsMakeNothing() {
    Daycounthouse x = dearest();
    plainCalls(x);
    BEAN.getCurrentThreadAllocatedBytes();
    long start = BEAN.getCurrentThreadAllocatedBytes();
    plainCalls(x);
    long made = BEAN.getCurrentThreadAllocatedBytes() - start;
    Check.due("calls without texts make " + made + " bytes of objects", made < 100, true);
  }

  private static void allCallsChange() {
    Daycounthouse x = new Daycounthouse();
    for (int i = 1; i <= 511; i++) {
      x.late(i, i % 61);
    }
    Check.due("the call 512", x.house(7), 511);
    Daycounthouse y = new Daycounthouse();
    y.schedule(0, 366, 1, false, false, 0);
    y.loan(1, 0, 0, 0);
    for (int i = 1; i <= 509; i++) {
      y.pay(0, 5, 999999);
    }
    Check.due("all that can be paid", y.owes(0, 5, 4), 509 * 999999);
  }

  public static void main(String[] args) {
    limits();
    manyCalls();
    plainCallsMakeNothing();
    greatestNumbers();
    allCallsChange();
    Check.finish("LimitsTest");
  }

  private LimitsTest() {}
}
