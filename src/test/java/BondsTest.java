/** Promises 32 to 43: BONDS, their prices and yields. */
public final class BondsTest {
  private static final int MIN = Integer.MIN_VALUE;
  private static final int MAX = Integer.MAX_VALUE;

  /** Four half years: the days 0, 182, 366, 547 and 731. A coupon of 500 for 1000 makes 25 in each. */
  private static Daycounthouse halfYears() {
    Daycounthouse x = new Daycounthouse();
    x.schedule(0, 731, 6, false, false, 0);
    return x;
  }

  private static Daycounthouse par() {
    Daycounthouse x = halfYears();
    x.bond(1000, 500);
    return x;
  }

  private static String line(Daycounthouse x, int bond, int what) {
    StringBuilder text = new StringBuilder();
    for (int k = 1; k <= 4; k++) {
      text.append(k > 1 ? " " : "").append(x.flow(bond, k, what));
    }
    return text.toString();
  }

  private static void promise32() {
    Daycounthouse x = new Daycounthouse();
    Check.state(x, "32: without a row", () -> x.bond(1, 0));
    Check.argument(x, "32: the argument goes first", () -> x.bond(0, 0));
    x.schedule(0, 731, 6, false, false, 0);
    Check.due("32: the first", x.bond(1, 0), 0);
    x.schedule(0, 731, 12, false, false, 0);
    Check.due("32: the second", x.bond(999999, 9999), 1);
    Check.due("32: each keeps its row", x.flow(0, 2, 0) + " " + x.flow(1, 2, 0), "366 731");
    int[][] wrong = {{0, 0}, {1000000, 0}, {1, -1}, {1, 10000}, {MIN, MIN}, {MAX, MAX}};
    for (int[] w : wrong) {
      Check.argument(x, "32: bond " + w[0] + " " + w[1], () -> x.bond(w[0], w[1]));
    }
    Check.due("32: the third", x.bond(5, 5), 2);
    Check.state(x, "32: a fourth", () -> x.bond(5, 5));
    Check.argument(x, "32: the argument goes first", () -> x.bond(5, 10000));
    Check.due("32: house(4), house(10)", x.house(4) + " " + x.house(10), "3 5");
  }

  private static void promise33() {
    Daycounthouse x = par();
    Check.due("33: sink(0, 2, 300)", x.sink(0, 2, 300), 0);
    Check.due("33: coupons", line(x, 0, 1), "25 25 18 18");
    Check.due("33: back", line(x, 0, 2), "0 300 0 700");
    Check.due("33: sink(0, 3, 999999)", x.sink(0, 3, 999999), 0);
    Check.due("33: back", line(x, 0, 2), "0 300 700 0");
    Check.due("33: rests", line(x, 0, 4), "1000 700 0 0");
    Check.due("33: sink(0, 3, 0)", x.sink(0, 3, 0), 999999);
    Check.due("33: sink(0, 4, 1)", x.sink(0, 4, 1), 0);
    Check.due("33: in the last one all", line(x, 0, 2), "0 300 0 700");
    Check.due("33: house(10)", x.house(10), 6);
    for (int sum : new int[] {-1, 1000000, MIN, MAX}) {
      Check.argument(x, "33: sink(0, 1, " + sum + ")", () -> x.sink(0, 1, sum));
    }
    for (int k : new int[] {0, 5, MIN, MAX}) {
      Check.index(x, "33: sink(0, " + k + ", -1)", () -> x.sink(0, k, -1));
    }
    for (int bond : new int[] {-1, 1, MIN, MAX}) {
      Check.index(x, "33: sink(" + bond + ", 1, 1)", () -> x.sink(bond, 1, 1));
    }
  }

  private static void promise34() {
    Daycounthouse x = par();
    Check.due("34: call(0, 2, 102)", x.call(0, 2, 102), -1);
    Check.due("34: call(0, 2, 50)", x.call(0, 2, 50), 102);
    Check.due("34: call(0, 2, 200)", x.call(0, 2, 200), 50);
    Check.due("34: call(0, 2, -1)", x.call(0, 2, -1), 200);
    Check.due("34: call(0, 2, -1) again", x.call(0, 2, -1), -1);
    Check.due("34: in the first", x.call(0, 1, 100), -1);
    Check.due("34: in the last but one", x.call(0, 3, 100), -1);
    Check.due("34: house(10)", x.house(10), 9);
    for (int percent : new int[] {-2, 0, 49, 201, MIN, MAX}) {
      Check.argument(x, "34: call(0, 1, " + percent + ")", () -> x.call(0, 1, percent));
    }
    for (int k : new int[] {0, 4, 5, MIN, MAX}) {
      Check.index(x, "34: call(0, " + k + ", 0)", () -> x.call(0, k, 0));
    }
    Check.index(x, "34: call(1, 1, 100)", () -> x.call(1, 1, 100));
    Check.index(x, "34: call(-1, 1, 100)", () -> x.call(-1, 1, 100));
    Daycounthouse y = new Daycounthouse();
    y.schedule(0, 10, 6, false, false, 0);
    y.bond(1000, 500);
    Check.index(y, "34: no call with one period", () -> y.call(0, 1, 100));
  }

  private static void promise35() {
    Daycounthouse x = par();
    Check.due("35: reset(0, 3, 600)", x.reset(0, 3, 600), -1);
    Check.due("35: coupons", line(x, 0, 1), "25 25 30 30");
    Check.due("35: reset(0, 4, 0)", x.reset(0, 4, 0), -1);
    Check.due("35: coupons", line(x, 0, 1), "25 25 30 0");
    Check.due("35: reset(0, 3, -1)", x.reset(0, 3, -1), 600);
    Check.due("35: reset(0, 1, 9999)", x.reset(0, 1, 9999), -1);
    Check.due("35: coupons", line(x, 0, 1), "500 500 500 0");
    Check.due("35: reset(0, 4, -1)", x.reset(0, 4, -1), 0);
    Check.due("35: house(10)", x.house(10), 7);
    for (int coupon : new int[] {-2, 10000, MIN, MAX}) {
      Check.argument(x, "35: reset(0, 1, " + coupon + ")", () -> x.reset(0, 1, coupon));
    }
    for (int k : new int[] {0, 5, MIN, MAX}) {
      Check.index(x, "35: reset(0, " + k + ", -2)", () -> x.reset(0, k, -2));
    }
    Check.index(x, "35: reset(1, 1, 1)", () -> x.reset(1, 1, 1));
  }

  private static void promise36() {
    Daycounthouse x = par();
    Check.due("36: link(0, 3, 200)", x.link(0, 3, 200), -1);
    Check.due("36: coupons", line(x, 0, 1), "25 25 50 50");
    Check.due("36: back", line(x, 0, 2), "0 0 0 2000");
    Check.due("36: rests", line(x, 0, 4), "1000 1000 1000 0");
    Check.due("36: link(0, 4, 1)", x.link(0, 4, 1), -1);
    Check.due("36: flows", line(x, 0, 3), "25 25 50 10");
    Check.due("36: link(0, 4, 999)", x.link(0, 4, 999), 1);
    Check.due("36: flows", line(x, 0, 3), "25 25 50 10240");
    Check.due("36: link(0, 4, -1)", x.link(0, 4, -1), 999);
    Check.due("36: house(10)", x.house(10), 6);
    for (int index : new int[] {-2, 0, 1000, MIN, MAX}) {
      Check.argument(x, "36: link(0, 1, " + index + ")", () -> x.link(0, 1, index));
    }
    for (int k : new int[] {0, 5, MIN, MAX}) {
      Check.index(x, "36: link(0, " + k + ", 0)", () -> x.link(0, k, 0));
    }
    Check.index(x, "36: link(1, 1, 1)", () -> x.link(1, 1, 1));
  }

  private static void promise37() {
    Daycounthouse x = par();
    Check.due("37: ex(0, 10)", x.ex(0, 10), 0);
    Check.due("37: 11 days ahead of the end", x.accrued(0, 171), "4275/182");
    Check.due("37: 10 days ahead of the end", x.accrued(0, 172), "-125/91");
    Check.due("37: without the coupon", x.price(0, 172, 0) + " " + x.price(0, 171, 0), "1075 1100");
    Check.due("37: ex(0, 60)", x.ex(0, 60), 10);
    Check.due("37: 60 days", x.price(0, 122, 0) + " " + x.price(0, 121, 0), "1075 1100");
    Check.due("37: ex(0, 0)", x.ex(0, 0), 60);
    Check.due("37: a day ahead", x.price(0, 181, 0), 1100);
    Check.due("37: house(10)", x.house(10), 5);
    for (int days : new int[] {-1, 61, MIN, MAX}) {
      Check.argument(x, "37: ex(0, " + days + ")", () -> x.ex(0, days));
    }
    for (int bond : new int[] {-1, 1, MIN, MAX}) {
      Check.index(x, "37: ex(" + bond + ", -1)", () -> x.ex(bond, -1));
    }
  }

  private static void promise38() {
    Daycounthouse x = par();
    String[] dues = {"182 366 547 731", "25 25 25 25", "0 0 0 1000", "25 25 25 1025", "1000 1000 1000 0"};
    for (int what = 0; what < 5; what++) {
      Check.due("38: flows " + what, line(x, 0, what), dues[what]);
    }
    x.bond(10, 500);
    Check.due("38: 1/4 of a coin", line(x, 1, 1), "0 0 0 0");
    x.round(3);
    Check.due("38: rounded up", line(x, 1, 1), "1 1 1 1");
    x.sink(1, 1, 3);
    x.link(1, 1, 50);
    Check.due("38: 3/2 of a coin, rounded up, and 7/2", line(x, 1, 2), "2 0 0 4");
    for (int what : new int[] {-1, 5, MIN, MAX}) {
      Check.argument(x, "38: flow(0, 1, " + what + ")", () -> x.flow(0, 1, what));
    }
    for (int k : new int[] {0, 5, MIN, MAX}) {
      Check.index(x, "38: flow(0, " + k + ", 5)", () -> x.flow(0, k, 5));
    }
    Check.index(x, "38: flow(2, 1, 0)", () -> x.flow(2, 1, 0));
    Check.index(x, "38: flow(-1, 1, 0)", () -> x.flow(-1, 1, 0));
  }

  private static void promise39() {
    Daycounthouse x = par();
    Check.due("39: on the first day", x.accrued(0, 0), "0/1");
    Check.due("39: half of it", x.accrued(0, 91), "25/2");
    Check.due("39: nearly all", x.accrued(0, 181), "4525/182");
    Check.due("39: the next one begins", x.accrued(0, 182), "0/1");
    Check.due("39: on the last day", x.accrued(0, 730), "4575/184");
    for (int day : new int[] {-1, 731, 36524, 36525, MIN, MAX}) {
      Check.argument(x, "39: accrued(0, " + day + ")", () -> x.accrued(0, day));
    }
    for (int bond : new int[] {-1, 1, MIN, MAX}) {
      Check.index(x, "39: accrued(" + bond + ", -1)", () -> x.accrued(bond, -1));
    }
  }

  private static void promise40() {
    Daycounthouse x = par();
    Check.due("40: by its coupon", x.price(0, 0, 25000), 1000);
    Check.due("40: by nothing", x.price(0, 0, 0), 1100);
    Check.due("40: by the most", x.price(0, 0, 999999), 86);
    Check.due("40: half a period on, 1012.3", x.price(0, 91, 25000), 1012);
    Check.due("40: the next one begins", x.price(0, 182, 25000), 1000);
    x.round(3);
    Check.due("40: rounded up", x.price(0, 91, 25000), 1013);
    Check.due("40: whole, and not rounded up", x.price(0, 0, 25000), 1000);
    x.round(2);
    x.bond(3, 0);
    Check.due("40: 3 by 2 twice, 3/4", x.price(1, 547, 999999), 2);
    for (int gain : new int[] {-1, 1000000, MIN, MAX}) {
      Check.argument(x, "40: price(0, 0, " + gain + ")", () -> x.price(0, 0, gain));
    }
    for (int day : new int[] {-1, 731, MIN, MAX}) {
      Check.argument(x, "40: price(0, " + day + ", 0)", () -> x.price(0, day, 0));
    }
    for (int bond : new int[] {-1, 2, MIN, MAX}) {
      Check.index(x, "40: price(" + bond + ", -1, -1)", () -> x.price(bond, -1, -1));
    }
  }

  private static void promise41() {
    Daycounthouse x = par();
    Check.due("41: its coupon", x.yieldOf(0, 0, 1000), 25000);
    Check.due("41: a coin more", x.yieldOf(0, 0, 1001) < 25000, true);
    Check.due("41: nothing", x.yieldOf(0, 0, 1100), 0);
    Check.due("41: none", x.yieldOf(0, 0, 1101), -1);
    Check.due("41: none", x.yieldOf(0, 0, 99999999), -1);
    Check.due("41: the most", x.yieldOf(0, 0, 1), 999999);
    Check.due("41: on the last day, 1025 by 1 + n / 184", x.yieldOf(0, 730, 1000), 999999);
    Check.due("41: the same, 1025 / 1020 - 1 times 184", x.yieldOf(0, 730, 1020), 901960);
    for (int price : new int[] {-1, 0, 100000000, MIN, MAX}) {
      Check.argument(x, "41: yieldOf(0, 0, " + price + ")", () -> x.yieldOf(0, 0, price));
    }
    for (int day : new int[] {-1, 731, MIN, MAX}) {
      Check.argument(x, "41: yieldOf(0, " + day + ", 1)", () -> x.yieldOf(0, day, 1));
    }
    for (int bond : new int[] {-1, 1, MIN, MAX}) {
      Check.index(x, "41: yieldOf(" + bond + ", -1, 0)", () -> x.yieldOf(bond, -1, 0));
    }
  }

  private static void promise42() {
    Daycounthouse x = par();
    Check.due("42: without a call", x.worst(0, 0, 1070), x.yieldOf(0, 0, 1070));
    x.call(0, 2, 102);
    Check.due("42: called at 1020, 1070 in all", x.worst(0, 0, 1070), 0);
    Check.due("42: the yield is more", x.yieldOf(0, 0, 1070) > 0, true);
    Check.due("42: none is below all", x.worst(0, 0, 1071), -1);
    Check.due("42: the yield is less than by the call", x.worst(0, 0, 1000), 25000);
    Check.due("42: the call's is less", x.worst(0, 0, 1020) < x.yieldOf(0, 0, 1020), false);
    Check.due("42: the call's is less at 1050", x.worst(0, 0, 1050) < x.yieldOf(0, 0, 1050), true);
    Check.due("42: on its last day", x.worst(0, 365, 1046), -1);
    Check.due("42: its period is ended", x.worst(0, 366, 1046), x.yieldOf(0, 366, 1046));
    x.call(0, 1, 50);
    Check.due("42: the least of two", x.worst(0, 0, 526), -1);
    Check.due("42: 525 is reached", x.worst(0, 0, 525), 0);
    x.call(0, 1, -1);
    x.sink(0, 1, 400);
    x.link(0, 2, 150);
    // 25 and 400, then 600 * 150 / 100 * 5 / 200 rounded to 23, and 600 * 102 / 100 * 150 / 100.
    Check.due("42: the rest by the index", x.worst(0, 0, 1366), 0);
    Check.due("42: a coin more", x.worst(0, 0, 1367), -1);
    for (int price : new int[] {-1, 0, 100000000, MIN, MAX}) {
      Check.argument(x, "42: worst(0, 0, " + price + ")", () -> x.worst(0, 0, price));
    }
    for (int day : new int[] {-1, 731, MIN, MAX}) {
      Check.argument(x, "42: worst(0, " + day + ", 1)", () -> x.worst(0, day, 1));
    }
    for (int bond : new int[] {-1, 1, MIN, MAX}) {
      Check.index(x, "42: worst(" + bond + ", -1, 0)", () -> x.worst(bond, -1, 0));
    }
  }

  private static void promise43() {
    Daycounthouse x = par();
    x.bond(1000, 0);
    Check.due("43: without a coupon", x.duration(1, 0, 123456), 4000);
    Check.due("43: half a period on", x.duration(1, 91, 123456), 3500);
    Check.due("43: the floor", x.duration(1, 1, 0), 3994);
    Check.due("43: 4250 by 1100", x.duration(0, 0, 0), 3863);
    Check.due("43: less by a yield", x.duration(0, 0, 999999), 3381);
    Check.due("43: on the last day", x.duration(0, 730, 5), 5);
    x.sink(1, 1, 1000);
    Check.due("43: nothing comes any more", x.duration(1, 182, 0), -1);
    Check.due("43: so there is no yield", x.yieldOf(1, 182, 1), -1);
    Check.due("43: nor a price", x.price(1, 182, 0), 0);
    for (int gain : new int[] {-1, 1000000, MIN, MAX}) {
      Check.argument(x, "43: duration(0, 0, " + gain + ")", () -> x.duration(0, 0, gain));
    }
    for (int day : new int[] {-1, 731, MIN, MAX}) {
      Check.argument(x, "43: duration(0, " + day + ", 0)", () -> x.duration(0, day, 0));
    }
    for (int bond : new int[] {-1, 2, MIN, MAX}) {
      Check.index(x, "43: duration(" + bond + ", -1, -1)", () -> x.duration(bond, -1, -1));
    }
  }

  public static void main(String[] args) {
    promise32();
    promise33();
    promise34();
    promise35();
    promise36();
    promise37();
    promise38();
    promise39();
    promise40();
    promise41();
    promise42();
    promise43();
    Check.finish("BondsTest");
  }

  private BondsTest() {}
}
