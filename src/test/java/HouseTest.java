import java.util.List;

/** Promises 55 to 59: steps back, what the house tells of itself, and its digest. */
public final class HouseTest {
  private static final int MIN = Integer.MIN_VALUE;
  private static final int MAX = Integer.MAX_VALUE;

  /** A house with something of all. */
  private static Daycounthouse full() {
    Daycounthouse x = new Daycounthouse();
    x.feast(12, 25);
    x.moving(1);
    x.step(50, 300);
    x.schedule(0, 731, 6, false, false, 3);
    x.loan(5000, 800, 0, 6);
    x.early(0, 1, 100);
    x.change(0, 3, 700);
    x.pay(0, 200, 40);
    x.bond(1000, 500);
    x.sink(0, 1, 100);
    x.call(0, 2, 101);
    x.reset(0, 3, 600);
    x.link(0, 2, 110);
    x.quote(5, 100);
    x.late(9, 3);
    x.order(2);
    x.knock();
    return x;
  }

  private static void takenBack(String what, java.util.function.ToIntFunction<Daycounthouse> call) {
    Daycounthouse x = full();
    x.undo();
    x.undo();
    long before = x.digest();
    String row = x.row();
    int stepped = x.stepped(999999, 0, 999, 0);
    int worst = x.worst(0, 10, 700);
    call.applyAsInt(x);
    Check.due("55: " + what + " can be taken back", x.house(10), 9);
    Check.due("55: undo() of " + what, x.undo(), 8);
    Check.due("55: digest behind undo() of " + what, x.digest(), before);
    Check.due("55: row behind undo() of " + what, x.row(), row);
    Check.due("55: steps behind undo() of " + what, x.stepped(999999, 0, 999, 0), stepped);
    Check.due("55: worst behind undo() of " + what, x.worst(0, 10, 700), worst);
  }

  private static int typedTerms(Daycounthouse x) {
    for (int sign : new int[] {11, 5, 12, 5, 13}) {
      x.type(sign);
    }
    int number = x.terms();
    x.wipe();
    return number;
  }

  /** All that is told of 24 PERIODS, 20 days, 8 STEPS, 6 FEASTS and 6 years comes back. */
  private static void wholeComesBack() {
    Daycounthouse x = new Daycounthouse();
    for (int i = 1; i <= 6; i++) {
      x.feast(i, i + 10);
      x.quote(i, 90 + i);
    }
    for (int i = 1; i <= 8; i++) {
      x.step(i, i);
    }
    x.schedule(0, 731, 1, false, false, 0);
    x.loan(999999, 900, 1, 4);
    x.bond(999999, 900);
    for (int k = 1; k <= 24; k++) {
      x.early(0, k, k);
      x.change(0, k, k);
      x.sink(0, k, k);
      x.reset(0, k, k);
      x.link(0, k, k);
      if (k < 24) {
        x.call(0, k, 100 + k);
      }
    }
    for (int i = 0; i < 20; i++) {
      x.pay(0, 700 + i, 1000 + i);
    }
    // Then there is room for one more change, and the digest tells the same number of them.
    x.order(3);
    x.undo();
    long before = x.digest();
    x.order(5);
    x.undo();
    Check.due("55: all comes back", x.digest(), before);
    for (int k = 1; k <= 24; k++) {
      Check.due("55: early of " + k, x.early(0, k, 0), k);
      Check.due("55: change of " + k, x.change(0, k, -1), k);
      Check.due("55: sink of " + k, x.sink(0, k, 0), k);
      Check.due("55: reset of " + k, x.reset(0, k, -1), k);
      Check.due("55: link of " + k, x.link(0, k, -1), k);
      Check.due("55: call of " + k, k < 24 ? x.call(0, k, -1) : 124, 100 + k);
    }
    for (int i = 1; i <= 8; i++) {
      Check.due("55: the step of " + i, x.step(i, -1), i);
    }
    for (int i = 0; i < 20; i++) {
      Check.due("55: paid on " + (700 + i), x.pay(0, 700 + i, 1), 1001 + i);
    }
    String par = x.par(6);
    x.unquote();
    x.undo();
    Check.due("55: the curve", x.par(6) + " " + x.isSound(), par + " true");
    Check.due("55: a feast", x.isBank(x.day(2003, 6, 16)), false);
  }

  private static void promise55() {
    wholeComesBack();
    Daycounthouse empty = new Daycounthouse();
    Check.state(empty, "55: undo() without one", empty::undo);
    takenBack("feast", x -> x.feast(1, 6));
    takenBack("moving", x -> x.moving(0));
    takenBack("unfeast", x -> x.unfeast());
    takenBack("round", x -> x.round(3));
    takenBack("step", x -> x.step(60, 1));
    takenBack("step instead", x -> x.step(50, 1));
    takenBack("step away", x -> x.step(50, -1));
    takenBack("schedule", x -> x.schedule(5, 50, 1, true, true, 1));
    takenBack("loan", x -> x.loan(7, 7, 1, 7));
    takenBack("holiday", x -> x.holiday(0, 2));
    takenBack("early", x -> x.early(0, 2, 5));
    takenBack("change", x -> x.change(0, 3, -1));
    takenBack("late", x -> x.late(1, 1));
    takenBack("order", x -> x.order(1));
    takenBack("pay", x -> x.pay(0, 30, 5));
    takenBack("pay again", x -> x.pay(0, 200, 5));
    takenBack("bond", x -> x.bond(5, 5));
    takenBack("sink", x -> x.sink(0, 2, 5));
    takenBack("call", x -> x.call(0, 1, 50));
    takenBack("reset", x -> x.reset(0, 1, 1));
    takenBack("link", x -> x.link(0, 1, 1));
    takenBack("ex", x -> x.ex(0, 5));
    takenBack("quote", x -> x.quote(5, 99));
    takenBack("unquote", x -> x.unquote());
    takenBack("terms", HouseTest::typedTerms);
    Daycounthouse x = full();
    Check.due("55: at most ten", x.house(10), 10);
    x.type(10);
    for (int left = 9; left >= 0; left--) {
      Check.due("55: undo()", x.undo(), left);
    }
    Check.state(x, "55: no more", x::undo);
    Check.due("55: the slip stays", x.wipe(), 1);
    Check.due("55: and the knocks", x.house(11), 1);
    Check.due("55: the loan too, but not what was told later", x.house(3) + " " + x.house(4), "1 0");
    Check.due("55: early stays, change is gone", x.planned(0, 1, 3) + " " + x.planned(0, 3, 5), "100 800");
    x.feast(1, 1);
    Check.due("55: once more", x.house(10) + " " + x.undo(), "1 0");
    Daycounthouse y = new Daycounthouse();
    for (int i = 0; i < 25; i++) {
      y.late(i, 0);
    }
    y.undo();
    y.undo();
    y.late(77, 0);
    y.late(78, 0);
    y.late(79, 0);
    for (int fee : new int[] {78, 77, 22, 21, 20, 19, 18, 17, 16, 15}) {
      y.undo();
      Check.due("55: the fee behind undo()", y.house(7), fee);
    }
    Check.state(y, "55: no more than ten", y::undo);
    Daycounthouse z = full();
    z.undo();
    z.undo();
    int before = z.house(10);
    z.knock();
    z.type(3);
    z.wipe();
    z.digest();
    z.schedule(0, 36524, 1, false, false, 0);
    z.quote(50, 1);
    z.terms();
    Check.answer(() -> z.feast(0, 0));
    Check.due("55: all these are no changes", z.house(10), before);
  }

  private static void promise56() {
    Daycounthouse x = full();
    int[] dues = {2, 1, 4, 1, 1, 1, 1, 9, 3, 2, 10, 1};
    for (int what = 0; what <= 11; what++) {
      Check.due("56: house(" + what + ")", x.house(what), dues[what]);
    }
    for (int what : new int[] {-1, 12, MIN, MAX}) {
      Check.argument(x, "56: house(" + what + ")", () -> x.house(what));
    }
  }

  private static void promise57() {
    Daycounthouse x = new Daycounthouse();
    for (int i = 1; i <= 300; i++) {
      Check.due("57: knock()", x.knock(), i);
    }
    Check.due("57: house(11)", x.house(11), 300);
    Check.due("57: no change", x.house(10), 0);
  }

  private static void promise58() {
    Daycounthouse x = full();
    for (int mode = 0; mode <= 3; mode++) {
      x.round(mode);
      Check.due("58: isSound()", x.isSound(), true);
    }
    x.sink(0, 1, 999999);
    x.reset(0, 1, 0);
    Check.due("58: with a bond worth little", x.isSound(), true);
  }

  private static long over(List<Long> values) {
    long d = 6904;
    for (long v : values) {
      d = d * 31 + v;
    }
    return d;
  }

  private static void promise59() {
    Daycounthouse x = new Daycounthouse();
    // house() of 0 to 11, "-", the bank days, "1/1", fault(), isSound().
    List<Long> values = List.of(0L, 0L, 0L, 0L, 0L, 0L, 1L, 0L, 0L, 0L, 0L, 0L, 45L, (long) x.banks(0, 3000), 49L, 47L,
        49L, 0L, 1L);
    Check.due("59: of a new one", x.digest(), over(values));
    Check.due("59: again", x.digest(), over(values));
    Check.due("59: no change", x.house(10), 0);
    SlowHouse slow = new SlowHouse();
    slow.knock();
    x.knock();
    Check.due("59: behind a knock", x.digest(), slow.digest());
    for (int coupon = 0; coupon < 3000; coupon += 150) {
      longBonds(coupon);
    }
  }

  /** Bonds of 24 times 24 months, so that a digest tells price, duration and worst by ever so little apart. */
  private static void longBonds(int coupon) {
    Daycounthouse x = new Daycounthouse();
    SlowHouse slow = new SlowHouse();
    x.schedule(coupon, coupon + 17500, 24, false, false, 1);
    slow.schedule(coupon, coupon + 17500, 24, false, false, 1);
    for (int i = 0; i < 3; i++) {
      x.bond(999999 - coupon, coupon + i);
      slow.bond(999999 - coupon, coupon + i);
    }
    Check.due("59: a coupon of " + coupon, x.digest(), slow.digest());
  }

  public static void main(String[] args) {
    promise55();
    promise56();
    promise57();
    promise58();
    promise59();
    Check.finish("HouseTest");
  }

  private HouseTest() {}
}
