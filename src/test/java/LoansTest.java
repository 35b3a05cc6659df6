import java.util.Arrays;

/** Promises 21 to 31: LOANS, their PLANS, their RATE and their LEDGER. */
public final class LoansTest {
  private static final int MIN = Integer.MIN_VALUE;
  private static final int MAX = Integer.MAX_VALUE;

  /** Twelve months of the year 2000; by count 4 each is a twelfth of a year. */
  private static Daycounthouse year() {
    Daycounthouse x = new Daycounthouse();
    x.schedule(0, 366, 1, false, false, 0);
    return x;
  }

  private static String line(Daycounthouse x, int what) {
    StringBuilder text = new StringBuilder();
    for (int k = 1; k <= x.all(0, 5); k++) {
      text.append(k > 1 ? " " : "").append(x.planned(0, k, what));
    }
    return text.toString();
  }

  private static void promise21() {
    Daycounthouse x = new Daycounthouse();
    Check.state(x, "21: without a row", () -> x.loan(1, 0, 0, 0));
    Check.argument(x, "21: the argument goes first", () -> x.loan(0, 0, 0, 0));
    x.schedule(0, 366, 1, false, false, 0);
    Check.due("21: the first", x.loan(1, 0, 0, 0), 0);
    x.schedule(366, 731, 6, false, false, 0);
    Check.due("21: the second", x.loan(999999, 9999, 2, 7), 1);
    Check.due("21: each keeps its row", x.all(0, 5) + " " + x.all(1, 5), "12 2");
    int[][] wrong = {{0, 0, 0, 0}, {1000000, 0, 0, 0}, {1, -1, 0, 0}, {1, 10000, 0, 0}, {1, 0, -1, 0}, {1, 0, 3, 0},
        {1, 0, 0, -1}, {1, 0, 0, 8}, {MIN, MIN, MIN, MIN}, {MAX, MAX, MAX, MAX}};
    for (int[] w : wrong) {
      Check.argument(x, "21: loan " + Arrays.toString(w), () -> x.loan(w[0], w[1], w[2], w[3]));
    }
    Check.due("21: the third", x.loan(5, 5, 1, 1), 2);
    Check.state(x, "21: a fourth", () -> x.loan(5, 5, 1, 1));
    Check.argument(x, "21: the argument goes first", () -> x.loan(5, 5, 1, 8));
    Check.due("21: house(3), house(10)", x.house(3) + " " + x.house(10), "3 5");
  }

  private static void promise22() {
    Daycounthouse x = year();
    x.loan(1200, 1200, 1, 4);
    Check.due("22: holiday(0, 3)", x.holiday(0, 3), 0);
    Check.due("22: parts", line(x, 2), "0 0 0 133 133 133 133 133 133 133 133 136");
    Check.due("22: interest", line(x, 1), "12 12 12 12 11 9 8 7 5 4 3 1");
    Check.due("22: holiday(0, 11)", x.holiday(0, 11), 3);
    Check.due("22: just the last", line(x, 2), "0 0 0 0 0 0 0 0 0 0 0 1200");
    x.early(0, 2, 300);
    Check.due("22: an early sum in it", line(x, 4), "1200 900 900 900 900 900 900 900 900 900 900 0");
    Check.due("22: holiday(0, 0)", x.holiday(0, 0), 11);
    Check.due("22: house(10)", x.house(10), 6);
    for (int many : new int[] {-1, 12, MIN, MAX}) {
      Check.argument(x, "22: holiday(0, " + many + ")", () -> x.holiday(0, many));
    }
    for (int loan : new int[] {-1, 1, 3, MIN, MAX}) {
      Check.index(x, "22: holiday(" + loan + ", -1)", () -> x.holiday(loan, -1));
    }
  }

  private static void promise23() {
    Daycounthouse x = year();
    x.loan(1200, 1200, 1, 4);
    Check.due("23: early(0, 2, 300)", x.early(0, 2, 300), 0);
    Check.due("23: the part is made anew", line(x, 2), "100 100 70 70 70 70 70 70 70 70 70 70");
    Check.due("23: early that counts", line(x, 3), "0 300 0 0 0 0 0 0 0 0 0 0");
    Check.due("23: more than there is", x.early(0, 2, 999999), 300);
    Check.due("23: just what there is", line(x, 3), "0 1000 0 0 0 0 0 0 0 0 0 0");
    Check.due("23: nothing behind it", line(x, 2), "100 100 0 0 0 0 0 0 0 0 0 0");
    Check.due("23: in two periods", x.all(0, 4), 2);
    Check.due("23: none", x.early(0, 2, 0), 999999);
    Check.due("23: parts as ever", line(x, 2), "100 100 100 100 100 100 100 100 100 100 100 100");
    x.undo();
    Daycounthouse y = year();
    y.loan(1006, 1200, 1, 4);
    y.early(0, 10, 1);
    Check.due("23: a coin is enough, 165 / 2 and not 84", y.planned(0, 11, 2), 83);
    Check.due("23: none", x.early(0, 2, 0), 999999);
    Check.due("23: in the last one", x.early(0, 12, 50), 0);
    Check.due("23: nothing is left for it", x.planned(0, 12, 3), 0);
    Check.due("23: house(10)", x.house(10), 6);
    for (int sum : new int[] {-1, 1000000, MIN, MAX}) {
      Check.argument(x, "23: early(0, 1, " + sum + ")", () -> x.early(0, 1, sum));
    }
    for (int k : new int[] {0, 13, 25, MIN, MAX}) {
      Check.index(x, "23: early(0, " + k + ", -1)", () -> x.early(0, k, -1));
    }
    Check.index(x, "23: early(1, 1, 1)", () -> x.early(1, 1, 1));
    Check.index(x, "23: early(-1, 1, 1)", () -> x.early(-1, 1, 1));
  }

  private static void promise24() {
    Daycounthouse x = year();
    x.loan(1006, 1200, 1, 4);
    Check.due("24: like parts", line(x, 2), "84 84 84 84 84 84 84 84 84 84 84 82");
    Check.due("24: the same rate", x.change(0, 11, 1200), -1);
    Check.due("24: nothing is made anew", x.planned(0, 11, 2), 84);
    Check.due("24: another rate", x.change(0, 11, 2400), 1200);
    Check.due("24: made anew, 166 / 2", x.planned(0, 11, 2), 83);
    Check.due("24: rates", line(x, 5), "1200 1200 1200 1200 1200 1200 1200 1200 1200 1200 2400 2400");
    Check.due("24: rate 0", x.change(0, 3, 0), -1);
    Check.due("24: rates", line(x, 5), "1200 1200 0 0 0 0 0 0 0 0 2400 2400");
    Check.due("24: interest", line(x, 1), "10 9 0 0 0 0 0 0 0 0 3 2");
    Check.due("24: taken away", x.change(0, 11, -1), 2400);
    Check.due("24: nothing to take away", x.change(0, 11, -1), -1);
    Check.due("24: the first", x.change(0, 1, 9999), -1);
    Check.due("24: rates", line(x, 5), "9999 9999 0 0 0 0 0 0 0 0 0 0");
    Check.due("24: house(10)", x.house(10), 8);
    for (int rate : new int[] {-2, 10000, MIN, MAX}) {
      Check.argument(x, "24: change(0, 1, " + rate + ")", () -> x.change(0, 1, rate));
    }
    for (int k : new int[] {0, 13, MIN, MAX}) {
      Check.index(x, "24: change(0, " + k + ", -2)", () -> x.change(0, k, -2));
    }
    Check.index(x, "24: change(1, 1, 1)", () -> x.change(1, 1, 1));
  }

  private static void promise25() {
    Daycounthouse x = year();
    x.loan(1200, 1200, 0, 4);
    Check.due("25: ends", line(x, 0), "31 60 91 121 152 182 213 244 274 305 335 366");
    Check.due("25: interest", line(x, 1), "12 11 10 9 8 7 6 5 4 3 2 1");
    Check.due("25: parts of the payment 107", line(x, 2), "95 96 97 98 99 100 101 102 103 104 105 100");
    Check.due("25: early ones", line(x, 3), "0 0 0 0 0 0 0 0 0 0 0 0");
    Check.due("25: rests", line(x, 4), "1105 1009 912 814 715 615 514 412 309 205 100 0");
    Check.due("25: rates", line(x, 5), "1200 1200 1200 1200 1200 1200 1200 1200 1200 1200 1200 1200");
    x.change(0, 7, 2400);
    // 615 at 2 per 100 in six months: 109.79...
    Check.due("25: parts by the other rate", line(x, 2), "95 96 97 98 99 100 98 100 102 104 106 105");
    x.round(0);
    Check.due("25: rounded down, 106 and 110", line(x, 1) + " " + line(x, 2),
        "12 11 10 9 8 7 12 10 8 6 4 2 94 95 96 97 98 99 98 100 102 104 106 111");
    x.round(1);
    x.loan(1200, 1200, 2, 4);
    Check.due("25: nothing till the end", x.planned(1, 11, 2) + " " + x.planned(1, 12, 2), "0 1200");
    // A payment of 1210 that is whole is not rounded up.
    Daycounthouse w = new Daycounthouse();
    w.schedule(0, 731, 12, false, false, 0);
    w.round(3);
    w.loan(2100, 1000, 0, 7);
    Check.due("25: 210 and 1000, 110 and 1100", line(w, 1) + " " + line(w, 2), "210 110 1000 1100");
    // Rates so high that the payment by the months is below the interest by the days: the part is not below 0.
    Daycounthouse y = new Daycounthouse();
    y.schedule(0, 36, 1, false, false, 0);
    y.loan(1000, 9999, 0, 0);
    y.schedule(0, 700, 12, false, false, 0);
    y.loan(1000, 9999, 0, 2);
    Check.due("25: interest 1000, payment 1333", y.planned(1, 1, 1) + " " + y.planned(1, 1, 2), "1000 333");
    y.schedule(0, 3650, 12, false, false, 0);
    y.loan(1000, 9999, 0, 0);
    Check.due("25: interest 1017, payment 1001", y.planned(2, 1, 1) + " " + y.planned(2, 1, 2), "1017 0");
    for (int what : new int[] {-1, 6, MIN, MAX}) {
      Check.argument(x, "25: planned(0, 1, " + what + ")", () -> x.planned(0, 1, what));
    }
    for (int k : new int[] {0, 13, MIN, MAX}) {
      Check.index(x, "25: planned(0, " + k + ", 6)", () -> x.planned(0, k, 6));
    }
    Check.index(x, "25: planned(2, 1, 6)", () -> x.planned(2, 1, 6));
    Check.index(x, "25: planned(-1, 1, 6)", () -> x.planned(-1, 1, 6));
  }

  private static void promise26() {
    Daycounthouse x = year();
    x.loan(1200, 1200, 1, 4);
    int[] dues = {78, 1200, 1278, 112, 12, 12};
    for (int what = 0; what < 6; what++) {
      Check.due("26: all(0, " + what + ")", x.all(0, what), dues[what]);
    }
    x.early(0, 1, 1100);
    dues = new int[] {12, 1200, 1212, 112, 1, 12};
    for (int what = 0; what < 6; what++) {
      Check.due("26: paid early, all(0, " + what + ")", x.all(0, what), dues[what]);
    }
    for (int what : new int[] {-1, 6, MIN, MAX}) {
      Check.argument(x, "26: all(0, " + what + ")", () -> x.all(0, what));
    }
    for (int loan : new int[] {-1, 1, MIN, MAX}) {
      Check.index(x, "26: all(" + loan + ", 6)", () -> x.all(loan, 6));
    }
  }

  private static void promise27() {
    Daycounthouse x = year();
    x.loan(1200, 1200, 2, 4);
    x.loan(1200, 1200, 1, 4);
    x.loan(1200, 0, 0, 4);
    Check.due("27: one in a hundred", x.rateOf(0), 10000);
    Check.due("27: by like parts too", x.rateOf(1), 10000);
    Check.due("27: nothing", x.rateOf(2), 0);
    x.early(0, 3, 700);
    Check.due("27: with an early sum", x.rateOf(0), 10000);
    x.round(3);
    x.change(2, 1, 1);
    Check.due("27: a coin each month for 1200", x.rateOf(2) > 1500 && x.rateOf(2) < 1600, true);
    Daycounthouse y = new Daycounthouse();
    y.schedule(0, 731, 24, false, false, 0);
    y.loan(1000, 9999, 0, 0);
    Check.due("27: above all", y.rateOf(0), 999999);
    for (int loan : new int[] {-1, 3, MIN, MAX}) {
      Check.index(x, "27: rateOf(" + loan + ")", () -> x.rateOf(loan));
    }
  }

  private static void promise28() {
    Daycounthouse x = year();
    x.loan(1200, 1200, 1, 4);
    Check.due("28: late(25, 5)", x.late(25, 5), 0);
    Check.due("28: the sixth day is the first one with a fee", x.owes(0, 36, 0) + " " + x.owes(0, 37, 0), "0 25");
    Check.due("28: late(9999, 0)", x.late(9999, 0), 25);
    Check.due("28: the day behind", x.owes(0, 31, 0) + " " + x.owes(0, 32, 0), "0 9999");
    Check.due("28: late(7, 60)", x.late(7, 60), 9999);
    Check.due("28: 61 days behind", x.owes(0, 91, 0) + " " + x.owes(0, 92, 0), "0 7");
    Check.due("28: house(7), house(8), house(10)", x.house(7) + " " + x.house(8) + " " + x.house(10), "7 60 5");
    int[][] wrong = {{-1, 0}, {10000, 0}, {0, -1}, {0, 61}, {MIN, MAX}};
    for (int[] w : wrong) {
      Check.argument(x, "28: late " + Arrays.toString(w), () -> x.late(w[0], w[1]));
    }
  }

  private static void promise29() {
    Daycounthouse x = year();
    x.loan(1200, 1200, 1, 4);
    x.late(25, 0);
    x.pay(0, 40, 30);
    x.pay(0, 50, 90);
    // Owed are 25, 12 and 100 when 30 and then 90 are paid.
    String[] dues = {"0 7 100 0 0 17", "0 12 95 0 12 5", "7 0 100 0 0 17", "25 0 82 17 0 0", "25 12 70 5 12 0",
        "25 12 70 17 0 0"};
    for (int order = 0; order < 6; order++) {
      Check.due("29: order(" + order + ")", x.order(order), Math.max(0, order - 1));
      StringBuilder got = new StringBuilder();
      for (int i = 0; i < 6; i++) {
        got.append(i > 0 ? " " : "").append(x.owes(0, i < 3 ? 40 : 50, i % 3));
      }
      Check.due("29: by the order " + order, got.toString(), dues[order]);
    }
    Check.due("29: house(9), house(10)", x.house(9) + " " + x.house(10), "5 10");
    for (int order : new int[] {-1, 6, MIN, MAX}) {
      Check.argument(x, "29: order(" + order + ")", () -> x.order(order));
    }
  }

  private static void promise30() {
    Daycounthouse x = new Daycounthouse();
    x.schedule(10, 376, 1, false, false, 0);
    x.loan(1200, 1200, 1, 4);
    Check.due("30: on its first day", x.pay(0, 10, 5), 5);
    Check.due("30: once more", x.pay(0, 10, 999999), 1000004);
    Check.due("30: on the last day of all", x.pay(0, 36524, 1), 1);
    for (int i = 2; i < 20; i++) {
      Check.due("30: on day " + (100 - i), x.pay(0, 100 - i, i), i);
    }
    Check.state(x, "30: a day too much", () -> x.pay(0, 500, 1));
    Check.due("30: but on one of these", x.pay(0, 98, 1), 3);
    Check.due("30: all paid", x.owes(0, 36524, 4), 1000004 + 1 + 189 + 1);
    Check.due("30: house(10)", x.house(10), 10);
    int[][] wrong = {{-1, 1}, {9, 1}, {36525, 1}, {20, 0}, {20, 1000000}, {MIN, MIN}, {MAX, MAX}};
    for (int[] w : wrong) {
      Check.argument(x, "30: pay " + Arrays.toString(w), () -> x.pay(0, w[0], w[1]));
    }
    for (int loan : new int[] {-1, 1, MIN, MAX}) {
      Check.index(x, "30: pay(" + loan + ", -1, 0)", () -> x.pay(loan, -1, 0));
    }
    x.loan(1200, 1200, 1, 4);
    Check.due("30: each loan has its own days", x.pay(1, 500, 1), 1);
  }

  private static void owed(Daycounthouse x, int day, String due) {
    StringBuilder got = new StringBuilder();
    for (int what = 0; what < 6; what++) {
      got.append(what > 0 ? " " : "").append(x.owes(0, day, what));
    }
    Check.due("31: fees, interest, parts, purse, paid, fees due on day " + day, got.toString(), due);
  }

  private static void promise31() {
    Daycounthouse x = new Daycounthouse();
    x.schedule(31, 152, 1, false, false, 0);
    x.loan(400, 1200, 1, 4);
    x.late(25, 2);
    owed(x, 0, "0 0 0 0 0 0");
    owed(x, 59, "0 0 0 0 0 0");
    owed(x, 60, "0 4 100 0 0 0");
    owed(x, 62, "0 4 100 0 0 0");
    owed(x, 63, "25 4 100 0 0 25");
    x.pay(0, 40, 50);
    owed(x, 40, "0 0 0 50 50 0");
    owed(x, 60, "0 0 54 0 50 0");
    x.pay(0, 63, 100);
    // What is paid on the very day is too late for the fee, and goes to it first.
    owed(x, 63, "0 0 0 21 150 25");
    owed(x, 91, "0 0 82 0 150 25");
    x.pay(0, 93, 82);
    owed(x, 93, "0 0 0 0 232 25");
    owed(x, 94, "0 0 0 0 232 25");
    x.early(0, 3, 50);
    owed(x, 36524, "50 3 150 0 232 75");
    x.pay(0, 36524, 1000);
    owed(x, 36524, "0 0 0 797 1232 75");
    owed(x, 36523, "50 3 150 0 232 75");
    for (int what : new int[] {-1, 6, MIN, MAX}) {
      Check.argument(x, "31: owes(0, 0, " + what + ")", () -> x.owes(0, 0, what));
    }
    for (int day : new int[] {-1, 36525, MIN, MAX}) {
      Check.argument(x, "31: owes(0, " + day + ", 0)", () -> x.owes(0, day, 0));
    }
    for (int loan : new int[] {-1, 1, MIN, MAX}) {
      Check.index(x, "31: owes(" + loan + ", -1, 6)", () -> x.owes(loan, -1, 6));
    }
  }

  public static void main(String[] args) {
    promise21();
    promise22();
    promise23();
    promise24();
    promise25();
    promise26();
    promise27();
    promise28();
    promise29();
    promise30();
    promise31();
    Check.finish("LoansTest");
  }

  private LoansTest() {}
}
