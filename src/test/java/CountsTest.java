/** Promises 12 to 20: rounding, SHARES, sums that grow, STEPS and the ROW. */
public final class CountsTest {
  private static final int MIN = Integer.MIN_VALUE;
  private static final int MAX = Integer.MAX_VALUE;

  private static void promise12() {
    Daycounthouse x = new Daycounthouse();
    // A rate of 2500 for a year of count 1 makes quarters of coins: the answers for 0 to 8 coins.
    String[] dues = {"000011112", "001111222", "000111222", "011112222"};
    for (int mode = 3; mode >= 0; mode--) {
      x.round(mode);
      StringBuilder got = new StringBuilder();
      for (int amount = 0; amount <= 8; amount++) {
        got.append(x.simple(amount, 2500, 0, 365, 1));
      }
      Check.due("12: quarters in the mode " + mode, got.toString(), dues[mode]);
    }
    Check.due("12: round(2) behind 0", x.round(2), 0);
    Check.due("12: six quarters to the even one", x.simple(6, 2500, 0, 365, 1), 2);
    Check.due("12: round(2) behind 2", x.round(2), 2);
    Check.due("12: house(6)", x.house(6), 2);
    Check.due("12: house(10)", x.house(10), 6);
    Check.due("12: undo()", x.undo(), 5);
    for (int mode : new int[] {-1, 4, MIN, MAX}) {
      Check.argument(x, "12: round(" + mode + ")", () -> x.round(mode));
    }
  }

  private static void share(Daycounthouse x, int a, int b, int count, String due) {
    Check.due("13: share(" + a + ", " + b + ", " + count + ")", x.share(a, b, count), due);
  }

  private static void promise13() {
    Daycounthouse x = new Daycounthouse();
    for (int count = 0; count <= 7; count++) {
      share(x, 0, 0, count, "0/1");
      share(x, 59, 59, count, "0/1");
      share(x, 36524, 36524, count, "0/1");
    }
    share(x, 0, 360, 0, "1/1");
    share(x, 10, 100, 0, "1/4");
    share(x, 0, 365, 1, "1/1");
    share(x, 0, 73, 1, "1/5");
    share(x, 0, 366, 2, "1/1");
    share(x, 0, 365, 2, "365/366");
    share(x, 366, 731, 2, "1/1");
    share(x, 365, 367, 2, "731/133590");
    share(x, 0, 36524, 2, "36499/365");
    share(x, 29, 60, 3, "31/360");
    share(x, 30, 90, 3, "1/6");
    share(x, 29, 90, 3, "1/6");
    share(x, 28, 90, 3, "31/180");
    share(x, 28, 90, 4, "61/360");
    share(x, 59, 90, 3, "4/45");
    share(x, 59, 90, 4, "31/360");
    share(x, 30, 59, 3, "29/360");
    share(x, 29, 30, 3, "0/1");
    share(x, 28, 30, 3, "1/180");
    share(x, 28, 30, 4, "1/360");
    share(x, 365, 366, 3, "1/360");
    share(x, 0, 366, 4, "1/1");
    share(x, 0, 366, 5, "1/1");
    share(x, 59, 60, 5, "0/1");
    share(x, 58, 59, 5, "1/365");
    share(x, 59, 61, 5, "1/365");
    share(x, 60, 61, 5, "1/365");
    share(x, 0, 1826, 5, "1824/365");
    share(x, 0, 9, 6, "5/252");
    share(x, 30, 59, 7, "1/12");
    share(x, 30, 58, 7, "7/90");
    share(x, 30, 60, 7, "31/360");
    share(x, 0, 366, 7, "1/1");
    share(x, 0, 36524, 7, "100/1");
    share(x, 59, 424, 7, "1/1");
    // Ends are not kept: March 29 and 2 days, March 28 and 2 days, May 30 and 30 days.
    share(x, 59, 90, 7, "4/45");
    share(x, 424, 454, 7, "4/45");
    share(x, 120, 180, 7, "1/6");
    x.feast(1, 4);
    share(x, 0, 9, 6, "1/63");
    int[][] wrong = {{-1, 5, 0}, {5, 36525, 0}, {6, 5, 0}, {5, 6, -1}, {5, 6, 8}, {MIN, MAX, MIN}, {0, 1, MAX}};
    for (int[] w : wrong) {
      Check.argument(x, "13: share " + w[0] + " " + w[1] + " " + w[2], () -> x.share(w[0], w[1], w[2]));
    }
  }

  private static void promise14() {
    Daycounthouse x = new Daycounthouse();
    Check.due("14: a year", x.simple(10000, 500, 0, 365, 1), 500);
    Check.due("14: a quarter", x.simple(10000, 500, 0, 90, 0), 125);
    Check.due("14: nothing", x.simple(0, 9999, 0, 36524, 0), 0);
    Check.due("14: no rate", x.simple(999999, 0, 0, 36524, 0), 0);
    Check.due("14: no days", x.simple(999999, 9999, 7, 7, 0), 0);
    Check.due("14: the most", x.simple(999999, 9999, 0, 36524, 0), 101445309);
    Check.due("14: the most by 2", x.simple(999999, 9999, 0, 36524, 2), 99987161);
    int[][] wrong = {{-1, 1, 0, 1, 0}, {1000000, 1, 0, 1, 0}, {1, -1, 0, 1, 0}, {1, 10000, 0, 1, 0}, {1, 1, -1, 1, 0},
        {1, 1, 0, 36525, 0}, {1, 1, 2, 1, 0}, {1, 1, 0, 1, -1}, {1, 1, 0, 1, 8}, {MAX, MAX, MAX, MAX, MAX}};
    for (int[] w : wrong) {
      Check.argument(x, "14: simple " + java.util.Arrays.toString(w), () -> x.simple(w[0], w[1], w[2], w[3], w[4]));
    }
  }

  private static void promise15() {
    Daycounthouse x = new Daycounthouse();
    Check.due("15: a tenth, twice", x.grown(1000, 1000, 2, 1, true), "1210");
    Check.due("15: each time, 1, 2, 3", x.grown(1, 5000, 2, 1, true), "3");
    Check.due("15: at last, 9/4", x.grown(1, 5000, 2, 1, false), "2");
    Check.due("15: a half", x.grown(1, 5000, 1, 1, false), "2");
    x.round(2);
    Check.due("15: 3/2 to the even one", x.grown(1, 5000, 1, 1, false), "2");
    Check.due("15: 9/2 to the even one", x.grown(3, 5000, 1, 1, true), "4");
    x.round(0);
    Check.due("15: down", x.grown(999, 9999, 1, 1, false), "1997");
    Check.due("15: down each time", x.grown(1, 5000, 60, 1, true), "1");
    x.round(3);
    Check.due("15: up", x.grown(1, 1, 1, 365, false), "2");
    Check.due("15: up each time", x.grown(1, 1, 60, 365, true), "61");
    Check.due("15: up, but whole", x.grown(1000, 1000, 2, 1, false), "1210");
    Check.due("15: not at all", x.grown(999999, 9999, 0, 1, true), "999999");
    Check.due("15: not at all", x.grown(999999, 9999, 0, 1, false), "999999");
    Check.due("15: nothing", x.grown(0, 9999, 60, 365, false), "0");
    Check.due("15: no rate", x.grown(7, 0, 60, 365, true), "7");
    x.round(1);
    Check.due("15: the most", x.grown(999999, 9999, 60, 1, false), "1149466687374737555511001");
    Check.due("15: the longest", x.grown(999999, 9999, 60, 365, false), "1178381");
    int[][] wrong = {{-1, 1, 1, 1}, {1000000, 1, 1, 1}, {1, -1, 1, 1}, {1, 10000, 1, 1}, {1, 1, -1, 1}, {1, 1, 61, 1},
        {1, 1, 1, 0}, {1, 1, 1, 366}, {MAX, MIN, MAX, MIN}};
    for (int[] w : wrong) {
      Check.argument(x, "15: grown " + java.util.Arrays.toString(w), () -> x.grown(w[0], w[1], w[2], w[3], true));
      Check.argument(x, "15: grown " + java.util.Arrays.toString(w), () -> x.grown(w[0], w[1], w[2], w[3], false));
    }
  }

  private static void promise16() {
    Daycounthouse x = new Daycounthouse();
    Check.due("16: none to take away", x.step(100, -1), -1);
    Check.due("16: it counts as a change", x.house(10), 1);
    Check.due("16: a first one", x.step(100, 500), -1);
    Check.due("16: another instead", x.step(100, 0), 500);
    Check.due("16: rate 0 is told", x.step(100, 9999), 0);
    Check.due("16: house(1)", x.house(1), 1);
    int[] days = {0, 36524, 50, 200, 150, 7, 90};
    for (int day : days) {
      x.step(day, day % 100);
    }
    Check.due("16: eight of them", x.house(1), 8);
    Check.state(x, "16: a ninth", () -> x.step(51, 1));
    Check.due("16: but one instead", x.step(50, 77), 50);
    Check.due("16: nothing to take away", x.step(51, -1), -1);
    Check.due("16: one away", x.step(7, -1), 7);
    Check.due("16: then another", x.step(51, 1), -1);
    Check.due("16: the first day", x.step(0, -1), 0);
    Check.due("16: the last day", x.step(36524, -1), 24);
    int[][] wrong = {{-1, 5}, {36525, 5}, {5, -2}, {5, 10000}, {MIN, MIN}, {MAX, MAX}};
    for (int[] w : wrong) {
      Check.argument(x, "16: step " + w[0] + " " + w[1], () -> x.step(w[0], w[1]));
    }
    x.step(1, 1);
    x.step(2, 1);
    Check.argument(x, "16: the argument goes first", () -> x.step(51000, 1));
  }

  private static void promise17() {
    Daycounthouse x = new Daycounthouse();
    Check.due("17: without steps", x.stepped(999999, 0, 36524, 0), 0);
    x.step(100, 3650);
    x.step(200, 7300);
    Check.due("17: ahead of the first one", x.stepped(1000, 0, 100, 1), 0);
    Check.due("17: 10 days of the first", x.stepped(1000, 90, 110, 1), 10);
    Check.due("17: over both", x.stepped(1000, 50, 210, 1), 120);
    Check.due("17: from a step on", x.stepped(1000, 200, 300, 1), 200);
    Check.due("17: up to a step", x.stepped(1000, 150, 200, 1), 50);
    Check.due("17: no days", x.stepped(1000, 150, 150, 1), 0);
    // Four and six tenths of a coin: rounded just once.
    Check.due("17: 21 and 42 hundredths together", x.stepped(14, 185, 215, 1), 1);
    x.round(0);
    Check.due("17: exactly, and then rounded", x.stepped(10, 160, 230, 1), 1);
    x.undo();
    x.step(100, -1);
    Check.due("17: one is away", x.stepped(1000, 50, 210, 1), 20);
    // Each span has its own SHARE: January 29 to 30, and 30 to 31, which by count 3 is none.
    Daycounthouse y = new Daycounthouse();
    y.step(0, 9000);
    Check.due("17: 29 to 31 in one", y.stepped(4000, 28, 30, 3), 20);
    y.step(29, 9000);
    Check.due("17: 29 to 31 cut", y.stepped(4000, 28, 30, 3), 10);
    int[][] wrong = {{-1, 0, 1, 0}, {1000000, 0, 1, 0}, {1, -1, 1, 0}, {1, 0, 36525, 0}, {1, 2, 1, 0}, {1, 0, 1, -1},
        {1, 0, 1, 8}, {MIN, MIN, MIN, MIN}};
    for (int[] w : wrong) {
      Check.argument(x, "17: stepped " + java.util.Arrays.toString(w), () -> x.stepped(w[0], w[1], w[2], w[3]));
    }
  }

  private static void row(Daycounthouse x, String what, int periods, int due, String row) {
    Check.due("18: " + what, periods, due);
    Check.due("19: row of " + what, x.row(), row);
  }

  private static void promise18() {
    Daycounthouse x = new Daycounthouse();
    row(x, "a quarter", x.schedule(0, 91, 1, false, false, 0), 3, "0 31 60 91");
    row(x, "the short one last", x.schedule(0, 80, 1, false, false, 0), 3, "0 31 60 80");
    row(x, "the short one first", x.schedule(11, 91, 1, true, false, 0), 3, "11 31 60 91");
    row(x, "ends by days", x.schedule(59, 151, 1, false, false, 0), 4, "59 88 119 149 151");
    row(x, "ends kept", x.schedule(59, 151, 1, false, true, 0), 3, "59 90 120 151");
    row(x, "from the first day, not one from the other", x.schedule(30, 120, 1, false, false, 0), 3, "30 59 90 120");
    row(x, "back from the last day", x.schedule(0, 90, 1, true, false, 0), 3, "0 30 59 90");
    row(x, "one day", x.schedule(36523, 36524, 24, false, true, 0), 1, "36523 36524");
    row(x, "the end of days", x.schedule(36000, 36524, 12, false, false, 0), 2, "36000 36365 36524");
    row(x, "the beginning of days", x.schedule(0, 500, 12, true, false, 0), 2, "0 135 500");
    row(x, "rolled on", x.schedule(0, 91, 1, false, false, 1), 3, "2 31 60 93");
    row(x, "rolled, two alike", x.schedule(28, 60, 1, false, false, 1), 2, "30 59 60");
    row(x, "like ones", x.schedule(0, 33, 1, true, false, 1), 1, "2 33");
    row(x, "24 of them", x.schedule(0, 731, 1, false, false, 0), 24, x.row());
    int before = x.house(10);
    Check.due("18: 25 of them", x.schedule(0, 732, 1, false, false, 0), -9);
    Check.due("18: many", x.schedule(0, 36524, 1, true, true, 3), -9);
    Check.due("18: just one day", x.schedule(0, 1, 1, false, false, 1), -9);
    Check.due("18: no roll back of the first", x.schedule(0, 100, 1, false, false, 2), -9);
    x.feast(12, 31);
    Check.due("18: no roll on of the last", x.schedule(36000, 36524, 12, false, false, 1), -9);
    Check.due("18: refused, nothing is other", x.row().startsWith("0 31 60 91 121"), true);
    Check.due("18: refused, no change", x.house(10), before);
    Object[][] wrong = {{-1, 5, 1, 0}, {5, 36525, 1, 0}, {5, 5, 1, 0}, {6, 5, 1, 0}, {0, 60, 0, 0}, {0, 60, 25, 0},
        {0, 60, 1, -1}, {0, 60, 1, 5}, {MIN, MAX, MIN, MAX}, {0, 1, MAX, 0}};
    for (Object[] w : wrong) {
      Check.argument(x, "18: schedule " + java.util.Arrays.toString(w),
          () -> x.schedule((int) w[0], (int) w[1], (int) w[2], true, false, (int) w[3]));
    }
  }

  private static void promise19and20() {
    Daycounthouse x = new Daycounthouse();
    Check.due("19: without one", x.row(), "-");
    Check.due("20: without one", x.period(0), -1);
    x.schedule(10, 80, 1, false, false, 0);
    Check.due("19: row()", x.row(), "10 41 70 80");
    int[][] dues = {{0, -1}, {9, -1}, {10, 1}, {40, 1}, {41, 2}, {69, 2}, {70, 3}, {79, 3}, {80, -1}, {36524, -1}};
    for (int[] due : dues) {
      Check.due("20: period(" + due[0] + ")", x.period(due[0]), due[1]);
    }
    for (int day : new int[] {-1, 36525, MIN, MAX}) {
      Check.argument(x, "20: period(" + day + ")", () -> x.period(day));
    }
    x.undo();
    Check.due("19: taken back", x.row(), "-");
  }

  public static void main(String[] args) {
    promise12();
    promise13();
    promise14();
    promise15();
    promise16();
    promise17();
    promise18();
    promise19and20();
    Check.finish("CountsTest");
  }

  private CountsTest() {}
}
