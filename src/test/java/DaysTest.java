/** Promises 1 to 11: a new object, dates, FEASTS and BANK DAYS. */
public final class DaysTest {
  private static final int MIN = Integer.MIN_VALUE;
  private static final int MAX = Integer.MAX_VALUE;

  private static void promise1() {
    Daycounthouse x = new Daycounthouse();
    for (int what = 0; what <= 11; what++) {
      Check.due("1: house(" + what + ")", x.house(what), what == 6 ? 1 : 0);
    }
    Check.due("1: row()", x.row(), "-");
    Check.due("1: isBank(3)", x.isBank(3), true);
    Check.due("1: fault()", x.fault(), 0);
    Check.due("1: isSound()", x.isSound(), true);
  }

  private static void promise2() {
    Daycounthouse x = new Daycounthouse();
    int[][] dues = {{2000, 1, 1, 0}, {2000, 2, 29, 59}, {2000, 3, 1, 60}, {2000, 12, 31, 365}, {2001, 1, 1, 366},
        {2003, 12, 31, 1460}, {2004, 1, 1, 1461}, {2004, 2, 29, 1520}, {2099, 12, 31, 36524}, {2099, 2, 28, 36218},
        {2001, 2, 29, -1}, {2099, 2, 29, -1}, {2000, 2, 30, -1}, {2000, 4, 31, -1}, {2000, 6, 30, 181},
        {2000, 1, 0, -1}, {2000, 1, 32, -1}, {2000, 0, 1, -1}, {2000, 13, 1, -1}, {1999, 12, 31, -1},
        {2100, 1, 1, -1}, {MIN, MIN, MIN, -1}, {MAX, MAX, MAX, -1}, {2000, MIN, 1, -1}, {2000, 1, MAX, -1}};
    for (int[] due : dues) {
      Check.due("2: day of " + due[0] + " " + due[1] + " " + due[2], x.day(due[0], due[1], due[2]), due[3]);
    }
  }

  private static void promise3() {
    Daycounthouse x = new Daycounthouse();
    Check.due("3: date(0)", x.date(0), "2000-1-1");
    Check.due("3: date(59)", x.date(59), "2000-2-29");
    Check.due("3: date(60)", x.date(60), "2000-3-1");
    Check.due("3: date(365)", x.date(365), "2000-12-31");
    Check.due("3: date(366)", x.date(366), "2001-1-1");
    Check.due("3: date(1460)", x.date(1460), "2003-12-31");
    Check.due("3: date(1461)", x.date(1461), "2004-1-1");
    Check.due("3: date(36524)", x.date(36524), "2099-12-31");
    for (int day = 0; day <= 36524; day++) {
      String[] parts = x.date(day).split("-");
      int back = x.day(Integer.parseInt(parts[0]), Integer.parseInt(parts[1]), Integer.parseInt(parts[2]));
      if (back != day) {
        Check.due("3: the day of its date", back, day);
      }
    }
    for (int day : new int[] {-1, 36525, MIN, MAX}) {
      Check.argument(x, "3: date(" + day + ")", () -> x.date(day));
    }
  }

  private static void promise4() {
    Daycounthouse x = new Daycounthouse();
    for (int day = 0; day < 15; day++) {
      Check.due("4: weekDay(" + day + ")", x.weekDay(day), (6 + day) % 7);
    }
    Check.due("4: weekDay(36524)", x.weekDay(36524), 4);
    for (int day : new int[] {-1, 36525, MIN, MAX}) {
      Check.argument(x, "4: weekDay(" + day + ")", () -> x.weekDay(day));
    }
  }

  private static void promise5() {
    Daycounthouse x = new Daycounthouse();
    int christmas = x.day(2003, 12, 25);
    Check.due("5: a Thursday", x.isBank(christmas), true);
    Check.due("5: feast(12, 25)", x.feast(12, 25), 1);
    Check.due("5: no longer", x.isBank(christmas), false);
    Check.due("5: nor in another year", x.isBank(x.day(2008, 12, 25)), false);
    Check.due("5: the day behind", x.isBank(christmas + 1), true);
    Check.due("5: feast(2, 29)", x.feast(2, 29), 2);
    Check.due("5: it is there in 2000", x.isBank(59), false);
    Check.due("5: not in 2001, and March 1 stays", x.isBank(x.day(2001, 3, 1)), true);
    Check.due("5: feast(2, 31) never comes", x.feast(2, 31), 3);
    Check.due("5: March 2, 2000", x.isBank(61), true);
    Check.due("5: the same day once more", x.feast(12, 25), 4);
    Check.due("5: house(10)", x.house(10), 4);
    int[][] wrong = {{0, 1}, {13, 1}, {1, 0}, {1, 32}, {MIN, 1}, {1, MAX}};
    for (int[] w : wrong) {
      Check.argument(x, "5: feast " + w[0] + " " + w[1], () -> x.feast(w[0], w[1]));
    }
    x.feast(1, 1);
    Check.due("5: the sixth", x.feast(1, 2), 6);
    Check.state(x, "5: a seventh", () -> x.feast(1, 3));
    Check.argument(x, "5: the argument goes first", () -> x.feast(1, 32));
  }

  private static void promise6() {
    Daycounthouse x = new Daycounthouse();
    int easter = x.day(2000, 4, 23);
    Check.due("6: moving(1)", x.moving(1), 1);
    Check.due("6: Monday behind Easter", x.isBank(easter + 1), false);
    Check.due("6: the next one", x.isBank(easter + 8), true);
    Check.due("6: moving(-2)", x.moving(-2), 2);
    Check.due("6: Friday ahead of Easter", x.isBank(easter - 2), false);
    // With d as 29 and e as 6 in 2076 (April 19, not 26), with d as 28, e as 6, a above 10 in 2049 (April 18).
    int[][] easters = {{2001, 4, 15}, {2008, 3, 23}, {2011, 4, 24}, {2019, 4, 21}, {2038, 4, 25}, {2049, 4, 18},
        {2076, 4, 19}, {2099, 4, 12}};
    for (int[] e : easters) {
      Check.due("6: Monday behind Easter " + e[0], x.isBank(x.day(e[0], e[1], e[2]) + 1), false);
      Check.due("6: Tuesday behind Easter " + e[0], x.isBank(x.day(e[0], e[1], e[2]) + 2), true);
      Check.due("6: Friday ahead of Easter " + e[0], x.isBank(x.day(e[0], e[1], e[2]) - 2), false);
    }
    Check.due("6: moving(-60)", x.moving(-60), 3);
    Check.due("6: moving(60)", x.moving(60), 4);
    Check.due("6: 60 days behind", x.isBank(easter + 60), false);
    Check.due("6: 60 days ahead", x.isBank(easter - 60), false);
    Check.due("6: house(10)", x.house(10), 4);
    for (int behind : new int[] {-61, 61, MIN, MAX}) {
      Check.argument(x, "6: moving(" + behind + ")", () -> x.moving(behind));
    }
    x.moving(0);
    Check.due("6: the sixth", x.moving(39), 6);
    Check.state(x, "6: a seventh", () -> x.moving(0));
    Check.argument(x, "6: the argument goes first", () -> x.moving(61));
  }

  private static void promise7() {
    Daycounthouse x = new Daycounthouse();
    Check.state(x, "7: unfeast() without one", x::unfeast);
    x.feast(12, 25);
    x.moving(1);
    Check.due("7: unfeast()", x.unfeast(), 1);
    Check.due("7: the last one is gone", x.isBank(x.day(2000, 4, 24)), true);
    Check.due("7: the first one stays", x.isBank(x.day(2000, 12, 25)), false);
    Check.due("7: unfeast()", x.unfeast(), 0);
    Check.due("7: house(10)", x.house(10), 4);
    Check.state(x, "7: unfeast() without one", x::unfeast);
  }

  private static void promise8() {
    Daycounthouse x = new Daycounthouse();
    boolean[] week = {false, false, true, true, true, true, true, false, false, true};
    for (int day = 0; day < week.length; day++) {
      Check.due("8: isBank(" + day + ")", x.isBank(day), week[day]);
    }
    Check.due("8: isBank(36524)", x.isBank(36524), true);
    x.feast(12, 31);
    Check.due("8: isBank(36524), a feast", x.isBank(36524), false);
    for (int day : new int[] {-1, 36525, MIN, MAX}) {
      Check.argument(x, "8: isBank(" + day + ")", () -> x.isBank(day));
    }
  }

  private static void promise9() {
    Daycounthouse x = new Daycounthouse();
    // Day 28 is a Saturday, 29 Sunday, 30 Monday, January 31; April 30, 2000 is Sunday, day 120.
    int[][] dues = {{28, 0, 28}, {28, 1, 30}, {28, 2, 27}, {28, 3, 30}, {28, 4, 27}, {30, 1, 30}, {30, 2, 30},
        {120, 1, 121}, {120, 2, 118}, {120, 3, 118}, {120, 4, 118}, {119, 3, 118}, {0, 0, 0}, {0, 1, 2}, {0, 2, -1},
        {0, 3, 2}, {0, 4, 2}, {1, 2, -1}, {1, 4, 2}, {36524, 1, 36524}};
    for (int[] due : dues) {
      Check.due("9: roll " + due[0] + " " + due[1], x.roll(due[0], due[1]), due[2]);
    }
    int april = x.day(2000, 4, 1);
    Check.due("9: April 1, a Saturday, back into another month", x.roll(april, 2), april - 1);
    Check.due("9: kept in its month", x.roll(april, 4), april + 2);
    x.feast(12, 31);
    x.feast(12, 30);
    Check.due("9: none behind the last one", x.roll(36524, 1), -1);
    Check.due("9: none, thus back", x.roll(36524, 3), 36522);
    Check.due("9: and the other way", x.roll(36524, 4), 36522);
    for (int day : new int[] {-1, 36525, MIN, MAX}) {
      Check.argument(x, "9: roll(" + day + ", 1)", () -> x.roll(day, 1));
    }
    for (int how : new int[] {-1, 5, MIN, MAX}) {
      Check.argument(x, "9: roll(5, " + how + ")", () -> x.roll(5, how));
    }
  }

  private static void promise10() {
    Daycounthouse x = new Daycounthouse();
    int[][] dues = {{30, 1, 0, 59}, {59, 1, 0, 88}, {59, 1, 1, 90}, {59, -1, 0, 28}, {59, -1, 1, 30}, {59, 12, 0, 424},
        {59, 48, 0, 1520}, {424, 36, 0, 1519}, {424, 36, 1, 1520}, {0, 0, 1, 0}, {0, -1, 0, -1}, {0, 1199, 0, 36494},
        {0, 1200, 0, -1}, {36524, -1199, 0, 30}, {36524, -1200, 0, -1}, {36524, 1, 1, -1}, {90, 1, 1, 120},
        {28, 1, 0, 59}, {27, 1, 0, 58}, {27, 1, 1, 58}, {120, 1, 0, 150}, {120, 1, 1, 151}};
    for (int[] due : dues) {
      String what = "10: later " + due[0] + " " + due[1] + " " + due[2];
      Check.due(what, x.later(due[0], due[1], due[2] == 1), due[3]);
    }
    for (int day : new int[] {-1, 36525, MIN, MAX}) {
      Check.argument(x, "10: later(" + day + ", 1, false)", () -> x.later(day, 1, false));
    }
    for (int months : new int[] {-1201, 1201, MIN, MAX}) {
      Check.argument(x, "10: later(5, " + months + ", true)", () -> x.later(5, months, true));
    }
  }

  private static void promise11() {
    Daycounthouse x = new Daycounthouse();
    Check.due("11: banks(0, 0)", x.banks(0, 0), 0);
    Check.due("11: banks(0, 2)", x.banks(0, 2), 0);
    Check.due("11: banks(0, 3)", x.banks(0, 3), 1);
    Check.due("11: banks(2, 9)", x.banks(2, 9), 5);
    Check.due("11: banks(36523, 36524)", x.banks(36523, 36524), 1);
    x.feast(1, 3);
    x.feast(1, 3);
    x.feast(1, 8);
    Check.due("11: two feasts on a day, one on a Saturday", x.banks(2, 9), 4);
    x.moving(1);
    int open = 0;
    for (int day = 0; day < 36524; day++) {
      open += x.isBank(day) ? 1 : 0;
    }
    Check.due("11: banks(0, 36524)", x.banks(0, 36524), open);
    int[][] wrong = {{-1, 5}, {5, 36525}, {5, 4}, {MIN, MAX}, {36525, 36526}, {MAX, MIN}};
    for (int[] w : wrong) {
      Check.argument(x, "11: banks " + w[0] + " " + w[1], () -> x.banks(w[0], w[1]));
    }
  }

  public static void main(String[] args) {
    promise1();
    promise2();
    promise3();
    promise4();
    promise5();
    promise6();
    promise7();
    promise8();
    promise9();
    promise10();
    promise11();
    Check.finish("DaysTest");
  }

  private DaysTest() {}
}
