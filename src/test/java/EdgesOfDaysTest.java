/** The boundary cases of the promises 1 to 11 and of the part 1: DAYS, FEASTS, ROLLS, months. */
public final class EdgesOfDaysTest extends Edges {
  private static final int[] LENGTHS = {31, 28, 31, 30, 31, 30, 31, 31, 30, 31, 30, 31};

  private static void daysBeginAndEnd() {
    test(2, "DAYS are 0 to 36524; DAY 0 is January 1, 2000, a Saturday; DAY 36524 is December 31, 2099.", x -> {
      due(x.day(2000, 1, 1), 0);
      due(x.day(2099, 12, 31), LAST_DAY);
      due(x.date(0), "2000-1-1");
      due(x.date(LAST_DAY), "2099-12-31");
      due(x.weekDay(0), 6);
      argument(x, h -> h.date(-1));
      argument(x, h -> h.date(LAST_DAY + 1));
    });
    test(2, "In each year that 4 divides February has 29 days.", x -> {
      for (int year = 2000; year <= 2099; year++) {
        due(x.day(year, 2, 28) + 1, year % 4 == 0 ? x.day(year, 2, 29) : x.day(year, 3, 1));
        due(x.day(year, 2, 29) == NONE, year % 4 != 0);
      }
    });
    test(2, "Returns the DAY of that date", x -> {
      int day = 0;
      for (int month = 1; month <= 12; month++) {
        due(x.day(2001, month, 1), 366 + day);
        due(x.day(2001, month, LENGTHS[month - 1]), 366 + day + LENGTHS[month - 1] - 1);
        day += LENGTHS[month - 1];
      }
    });
    test(2, "NONE, if it is no date of a DAY.", x -> {
      due(x.day(1999, 12, 31), NONE);
      due(x.day(2100, 1, 1), NONE);
      for (int month = 1; month <= 12; month++) {
        due(x.day(2001, month, 0), NONE);
        due(x.day(2001, month, LENGTHS[month - 1] + 1), NONE);
        for (int year : new int[] {1996, 1999, 2100, 2104, 0, 2000 + 65536}) {
          due(x.day(year, month, 1) + " " + x.day(year, month, 28), "-1 -1");
        }
      }
      due(x.day(2000, 2, 30), NONE);
      due(x.day(2050, 0, 1), NONE);
      due(x.day(2050, 13, 1), NONE);
      int[] ends = {MIN, MIN + 1, -1, 0, MAX - 1, MAX};
      for (int end : ends) {
        due(x.day(end, 1, 1), NONE);
        due(x.day(2000, end, 1), NONE);
        due(x.day(2000, 1, end), NONE);
        due(x.day(end, end, end), NONE);
      }
    });
  }

  private static void dates() {
    test(3, "A date as a text: year, \"-\", month, \"-\", day, as plain numbers.", x -> {
      due(x.date(9), "2000-1-10");
      due(x.date(8), "2000-1-9");
      due(x.date(274), "2000-10-1");
      due(x.date(273), "2000-9-30");
    });
    test(3, "Returns its date.", x -> {
      String[] dues = {"2000-2-28", "2000-2-29", "2000-3-1"};
      for (int i = 0; i < 3; i++) {
        due(x.date(58 + i), dues[i]);
      }
      due(x.date(365), "2000-12-31");
      due(x.date(366), "2001-1-1");
      due(x.date(1460), "2003-12-31");
      due(x.date(1461), "2004-1-1");
      due(x.date(36218), "2099-2-28");
      due(x.date(36219), "2099-3-1");
    });
    test(3, "Throws `IllegalArgumentException` if day is no DAY", x ->
        days(Daycounthouse::new, "2000-1-1", "2099-12-31", Daycounthouse::date));
    test(4, "WEEK DAY: 0 Sunday to 6 Saturday.", x -> {
      for (int day = 0; day < 8; day++) {
        due(x.weekDay(day), (day + 6) % 7);
      }
      due(x.weekDay(LAST_DAY), 4);
    });
    test(4, "Returns its WEEK DAY.", x -> due(x.weekDay(1) + " " + x.weekDay(7), "0 6"));
    test(4, "Throws `IllegalArgumentException` if day is no DAY", x ->
        days(Daycounthouse::new, 6, 4, Daycounthouse::weekDay));
  }

  private static void newHouse() {
    test(1, "Creates a house without feasts, loans and bonds.", x -> {
      for (int what = 0; what <= 11; what++) {
        due(x.house(what), what == 6 ? 1 : 0);
      }
      due(x.row(), "-");
      due(x.period(0), NONE);
      due(x.stepped(999999, 0, LAST_DAY, 0), 0);
      due(x.factor(0), "1/1");
      due(x.banks(0, LAST_DAY), 26088);
      due(x.fault(), 0);
      due(x.wipe(), 0);
      due(x.isSound(), true);
      state(x, Daycounthouse::undo);
      state(x, Daycounthouse::unfeast);
      state(x, Daycounthouse::unquote);
    });
    test(1, "Creates a house", x -> {
      x.feast(1, 1);
      x.schedule(0, 366, 1, false, false, 0);
      x.loan(1, 1, 1, 1);
      due(look(new Daycounthouse()).startsWith("0 0 0 0 0 0 1 0 0 0 0 0 - "), true);
    });
  }

  /** Six FEASTS. */
  private static Daycounthouse sixFeasts() {
    Daycounthouse x = new Daycounthouse();
    x.feast(12, 24);
    x.feast(12, 25);
    x.feast(12, 28);
    x.feast(12, 29);
    x.feast(12, 30);
    x.feast(12, 31);
    return x;
  }

  private static void feasts() {
    test(5, "FEASTS, at most 6", x -> {
      for (int many = 1; many <= 6; many++) {
        due(many % 2 == 0 ? x.moving(many) : x.feast(many, many), many);
      }
      state(x, h -> h.feast(7, 7));
      state(x, h -> h.moving(7));
      due(x.house(0), 6);
    });
    test(5, "of each year a told day and month (if it has that)", x -> {
      x.feast(2, 29);
      x.feast(2, 30);
      x.feast(4, 31);
      x.feast(1, 31);
      for (int year = 2000; year <= 2099; year++) {
        int january = x.day(year, 1, 31);
        due(x.isBank(january), false);
        int march = x.day(year, 3, 1);
        due(x.isBank(march), x.weekDay(march) % 6 != 0);
        int may = x.day(year, 5, 1);
        due(x.isBank(may), x.weekDay(may) % 6 != 0);
      }
      due(x.isBank(59), false);
      due(x.isBank(x.day(2096, 2, 29)), false);
    });
    test(5, "A FEAST on a day of a month (CHANGE).", x -> {
      change(Daycounthouse::new, 1, h -> h.feast(1, 3));
      // A Saturday, and one that never comes: nothing is other, but a CHANGE it is.
      change(Daycounthouse::new, 1, h -> h.feast(2, 31));
      x.feast(1, 3);
      due(x.isBank(2), false);
      x.undo();
      due(x.isBank(2), true);
    });
    test(5, "Returns how many FEASTS there are then.", x -> {
      due(x.feast(5, 5), 1);
      due(x.feast(5, 5), 2);
    });
    test(5, "Throws `IllegalArgumentException` if month is not 1 to 12, or day not 1 to 31", x -> {
      bounds(Daycounthouse::new, 1, 1, 12, 1, (h, month) -> h.feast(month, 1));
      bounds(Daycounthouse::new, 1, 1, 12, 1, (h, month) -> h.feast(month, 31));
      bounds(Daycounthouse::new, 1, 1, 31, 1, (h, day) -> h.feast(1, day));
      bounds(Daycounthouse::new, 1, 1, 31, 1, (h, day) -> h.feast(2, day));
      bounds(EdgesOfDaysTest::sixFeasts, 1, STATE, 12, STATE, (h, month) -> h.feast(month, 1));
      argument(x, h -> h.feast(MIN, MAX));
    });
    test(5, "Throws `IllegalStateException` if there are 6", x -> {
      nothing(EdgesOfDaysTest::sixFeasts, STATE, h -> h.feast(1, 1));
      Daycounthouse y = sixFeasts();
      y.unfeast();
      due(y.feast(1, 1), 6);
    });
    test(7, "Drops the last FEAST (CHANGE).", x -> {
      Daycounthouse y = sixFeasts();
      y.unfeast();
      due(y.isBank(LAST_DAY), true);
      due(y.isBank(LAST_DAY - 1), false);
      change(() -> {
        Daycounthouse z = new Daycounthouse();
        z.feast(2, 31);
        return z;
      }, 0, Daycounthouse::unfeast);
    });
    test(7, "Drops the last FEAST", x -> {
      // Another sixth one instead, and both taken back.
      Daycounthouse y = sixFeasts();
      y.unfeast();
      y.feast(1, 3);
      due(y.isBank(LAST_DAY) + " " + y.isBank(2), "true false");
      y.undo();
      y.undo();
      due(y.isBank(LAST_DAY) + " " + y.isBank(2), "false true");
    });
    test(7, "Returns how many are left.", x -> {
      Daycounthouse y = sixFeasts();
      for (int left = 5; left >= 0; left--) {
        due(y.unfeast(), left);
      }
    });
    test(7, "Throws `IllegalStateException` if there is none", x -> {
      nothing(Daycounthouse::new, STATE, Daycounthouse::unfeast);
      x.moving(1);
      due(x.unfeast(), 0);
      state(x, Daycounthouse::unfeast);
    });
  }

  /** EASTER by Oudin's rule, another one than the document's. */
  private static int march(int year) {
    int golden = year % 19;
    int century = year / 100;
    int moon = (century - century / 4 - (8 * century + 13) / 25 + 19 * golden + 15) % 30;
    int full = moon - moon / 28 * (1 - 29 / (moon + 1) * ((21 - golden) / 11));
    int weekDay = (year + year / 4 + full + 2 - century + century / 4) % 7;
    return full - weekDay + 28;
  }

  private static void easter() {
    test(6, "EASTER of the year y: with a, b, c as y mod 19, y mod 4, y mod 7, d as (19 * a + 24) mod 30, e as (2 * b "
        + "+ 4 * c + 6 * d + 5) mod 7, it is March 22, d + e days on", x -> {
      x.moving(1);
      for (int year = 2000; year <= 2099; year++) {
        int easter = x.day(year, 3, 1) + march(year) - 1;
        due(x.isBank(easter + 1), false);
        due(x.banks(x.day(year, 1, 1), x.day(year, 12, 31)),
            new Daycounthouse().banks(x.day(year, 1, 1), x.day(year, 12, 31)) - 1);
      }
      due(x.isBank(x.day(2008, 3, 24)), false);
      due(x.isBank(x.day(2038, 4, 26)), false);
    });
    test(6, "but 7 days less, if e is 6 and besides either d is 29, or d is 28 and a is above 10.", x -> {
      x.moving(1);
      due(x.isBank(x.day(2049, 4, 19)), false);
      due(x.isBank(x.day(2049, 4, 26)), true);
      due(x.isBank(x.day(2076, 4, 20)), false);
      due(x.isBank(x.day(2076, 4, 27)), true);
    });
    test(6, "or a told number of days behind EASTER (ahead of it, if below 0).", x -> {
      x.moving(-60);
      x.moving(60);
      x.moving(-1);
      x.moving(0);
      int easter = x.day(2000, 4, 23);
      due(x.isBank(easter - 60) + " " + x.isBank(easter + 60), "false false");
      due(x.isBank(easter - 59) + " " + x.isBank(easter + 59), "true true");
      due(x.isBank(easter + 1), true);
    });
    test(6, "A FEAST that moves with EASTER (CHANGE).", x -> {
      change(Daycounthouse::new, 1, h -> h.moving(0));
      change(Daycounthouse::new, 1, h -> h.moving(1));
    });
    test(6, "Returns how many FEASTS there are then.", x -> {
      x.feast(1, 1);
      due(x.moving(0), 2);
    });
    test(6, "Throws `IllegalArgumentException` if behind is not -60 to 60", x -> {
      bounds(Daycounthouse::new, -60, 1, 60, 1, Daycounthouse::moving);
      bounds(EdgesOfDaysTest::sixFeasts, -60, STATE, 60, STATE, Daycounthouse::moving);
    });
    test(6, "Throws `IllegalStateException` if there are 6", x ->
        nothing(EdgesOfDaysTest::sixFeasts, STATE, h -> h.moving(0)));
  }

  private static void bankDays() {
    test(8, "A BANK DAY is a DAY that is no Saturday, no Sunday and no FEAST.", x -> {
      for (int day = 0; day < 14; day++) {
        due(x.isBank(day), day % 7 > 1);
      }
      x.feast(1, 3);
      due(x.isBank(2), false);
    });
    test(8, "Returns whether it is a BANK DAY.", x -> {
      due(x.isBank(0), false);
      due(x.isBank(LAST_DAY), true);
      due(sixFeasts().isBank(LAST_DAY), false);
    });
    test(8, "Throws `IllegalArgumentException` if day is no DAY", x ->
        days(Daycounthouse::new, false, true, Daycounthouse::isBank));
    test(11, "Returns how many BANK DAYS there are from a (with it) to b (without it).", x -> {
      due(x.banks(0, 0), 0);
      due(x.banks(LAST_DAY, LAST_DAY), 0);
      due(x.banks(2, 3), 1);
      due(x.banks(1, 2), 0);
      due(x.banks(LAST_DAY - 1, LAST_DAY), 1);
      due(x.banks(0, LAST_DAY), 26088);
      due(sixFeasts().banks(LAST_DAY - 8, LAST_DAY), 1);
      // Two FEASTS on one BANK DAY.
      x.feast(4, 24);
      x.moving(1);
      due(x.banks(114, 115), 0);
      due(x.banks(113, 116), 1);
    });
    test(11, "Throws `IllegalArgumentException` if a or b is no DAY, or a is behind b", x -> {
      days(Daycounthouse::new, 26088, 0, (h, a) -> h.banks(a, LAST_DAY));
      days(Daycounthouse::new, 0, 26088, (h, b) -> h.banks(0, b));
      due(x.banks(5, 5), 0);
      argument(x, h -> h.banks(5, 4));
      argument(x, h -> h.banks(LAST_DAY, 0));
      argument(x, h -> h.banks(-2, -1));
      argument(x, h -> h.banks(LAST_DAY + 1, LAST_DAY + 2));
      argument(x, h -> h.banks(MAX, MIN));
    });
  }

  /** No BANK DAY up to DAY 9, January 10. */
  private static Daycounthouse lateStart() {
    Daycounthouse x = new Daycounthouse();
    for (int day : new int[] {3, 4, 5, 6, 7, 10}) {
      x.feast(1, day);
    }
    return x;
  }

  private static void rolls() {
    test(9, "ROLL of a DAY: 0 itself; 1 the first BANK DAY from it on; 2 the last one up to it", x -> {
      due(x.roll(0, 0) + " " + x.roll(LAST_DAY, 0), "0 " + LAST_DAY);
      due(x.roll(28, 1) + " " + x.roll(29, 1) + " " + x.roll(30, 1), "30 30 30");
      due(x.roll(28, 2) + " " + x.roll(29, 2) + " " + x.roll(30, 2), "27 27 30");
      due(x.roll(LAST_DAY, 1) + " " + x.roll(2, 2), LAST_DAY + " 2");
      due(sixFeasts().roll(LAST_DAY, 0), LAST_DAY);
    });
    test(9, "3 as 1, but, if that is in another month, or there is none, as 2", x -> {
      // April 29 and 30, 2000, are a weekend; behind the six FEASTS no BANK DAY is left.
      due(x.roll(119, 3) + " " + x.roll(120, 3) + " " + x.roll(118, 3), "118 118 118");
      due(x.roll(28, 3), 30);
      Daycounthouse y = sixFeasts();
      due(y.roll(LAST_DAY, 3), LAST_DAY - 8);
      due(y.roll(LAST_DAY - 7, 3), LAST_DAY - 8);
      due(y.roll(LAST_DAY - 8, 3), LAST_DAY - 8);
    });
    test(9, "4 as 2, but, if that is in another month, or there is none, as 1.", x -> {
      // April 1 and 2, 2000, are a weekend.
      due(x.roll(91, 4) + " " + x.roll(92, 4) + " " + x.roll(93, 4), "93 93 93");
      due(x.roll(28, 4), 27);
      due(x.roll(0, 4) + " " + x.roll(1, 4), "2 2");
      due(lateStart().roll(9, 4) + " " + lateStart().roll(0, 4), "10 10");
    });
    test(9, "NONE, if that is no DAY.", x -> {
      due(x.roll(0, 2) + " " + x.roll(1, 2), "-1 -1");
      due(lateStart().roll(9, 2) + " " + lateStart().roll(10, 2), "-1 10");
      Daycounthouse y = sixFeasts();
      due(y.roll(LAST_DAY, 1) + " " + y.roll(LAST_DAY - 7, 1), "-1 -1");
      due(y.roll(LAST_DAY - 8, 1) + " " + y.roll(LAST_DAY, 2), LAST_DAY - 8 + " " + (LAST_DAY - 8));
    });
    test(9, "Returns the DAY to which it ROLLS, or NONE.", x -> {
      due(x.roll(0, 1), 2);
      due(x.roll(0, 2), NONE);
    });
    test(9, "Throws `IllegalArgumentException` if day is no DAY, or how is not 0 to 4", x -> {
      int[] first = {0, 2, NONE, 2, 2};
      for (int how = 0; how <= 4; how++) {
        int one = how;
        days(Daycounthouse::new, first[how], LAST_DAY, (h, day) -> h.roll(day, one));
      }
      bounds(Daycounthouse::new, 0, 0, 4, 2, (h, how) -> h.roll(0, how));
      argument(x, h -> h.roll(MIN, MAX));
    });
  }

  private static void months() {
    test(10, "LATER by n months (n may be below 0): the same day of the month n months on", x -> {
      due(x.later(0, 0, false) + " " + x.later(LAST_DAY, 0, true), "0 " + LAST_DAY);
      due(x.later(14, 1, false) + " " + x.later(45, -1, false), "45 14");
      due(x.later(0, 1199, false), x.day(2099, 12, 1));
      due(x.later(LAST_DAY, -1199, false), 30);
      due(x.later(334, 1, false) + " " + x.later(335, 1, false), "364 366");
      due(x.later(366, -1, false), 335);
    });
    test(10, "but the last day of that month if it has no such day", x -> {
      due(x.later(30, 1, false) + " " + x.later(30, 13, false), "59 " + x.day(2001, 2, 28));
      due(x.later(29, 1, false) + " " + x.later(28, 1, false) + " " + x.later(27, 1, false), "59 59 58");
      due(x.later(30, 3, false), 120);
      due(x.later(59, 12, false), x.day(2001, 2, 28));
    });
    test(10, "and also, if ends are KEPT and the DAY is the last one of its month.", x -> {
      due(x.later(59, 1, true) + " " + x.later(59, 1, false), "90 88");
      due(x.later(58, 1, true), 87);
      due(x.later(x.day(2001, 2, 28), 36, true), x.day(2004, 2, 29));
      due(x.later(x.day(2001, 2, 28), 36, false), x.day(2004, 2, 28));
      due(x.later(120, 8, true) + " " + x.later(120, 8, false), "365 364");
      due(x.later(90, 0, true), 90);
    });
    test(10, "NONE, if that is no DAY.", x -> {
      due(x.later(0, -1, false), NONE);
      due(x.later(30, -1, true), NONE);
      due(x.later(LAST_DAY, 1, false), NONE);
      due(x.later(LAST_DAY - 30, 1, false), NONE);
      due(x.later(LAST_DAY - 31, 1, false), LAST_DAY - 1);
      due(x.later(LAST_DAY - 31, 1, true), LAST_DAY);
      due(x.later(31, -1, false), 0);
    });
    test(10, "Returns the DAY that is LATER by these, or NONE.", x -> {
      due(x.later(0, 1200, false), NONE);
      due(x.later(LAST_DAY, -1200, false), NONE);
    });
    test(10, "Throws `IllegalArgumentException` if day is no DAY, or months is not -1200 to 1200", x -> {
      days(Daycounthouse::new, 0, LAST_DAY, (h, day) -> h.later(day, 0, false));
      days(Daycounthouse::new, 31, NONE, (h, day) -> h.later(day, 1, true));
      bounds(Daycounthouse::new, -1200, NONE, 1200, NONE, (h, many) -> h.later(0, many, false));
      bounds(Daycounthouse::new, -1200, NONE, 1200, NONE, (h, many) -> h.later(LAST_DAY, many, true));
      argument(x, h -> h.later(MAX, MIN, true));
    });
  }

  public static void main(String[] args) {
    newHouse();
    daysBeginAndEnd();
    dates();
    feasts();
    easter();
    bankDays();
    rolls();
    months();
    finish(1, 11, 1);
  }

  private EdgesOfDaysTest() {}
}
