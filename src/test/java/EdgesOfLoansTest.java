import java.math.BigInteger;
import java.util.function.Supplier;

/** The boundary cases of the promises 21 to 31 and of the part 3: LOANS, PLANS, RATES, LEDGERS. */
public final class EdgesOfLoansTest extends Edges {
  /** Twelve months of the year 2000; by the count 4 each is a twelfth of a year. */
  private static Daycounthouse year() {
    Daycounthouse x = new Daycounthouse();
    x.schedule(0, 366, 1, false, false, 0);
    return x;
  }

  /** INTEREST of 12, 11, 10, ... coins and PARTS of 100. */
  private static Daycounthouse likeParts() {
    Daycounthouse x = year();
    x.loan(1200, 1200, 1, 4);
    return x;
  }

  private static Daycounthouse threeLoans() {
    Daycounthouse x = year();
    for (int kind = 0; kind < 3; kind++) {
      x.loan(1200, 1200, kind, 4);
    }
    return x;
  }

  /** One LOAN of so many PERIODS of a month. */
  private static Daycounthouse months(int periods, int amount, int rate, int kind) {
    Daycounthouse x = new Daycounthouse();
    x.schedule(0, x.later(0, periods, false), 1, false, false, 0);
    x.loan(amount, rate, kind, 4);
    return x;
  }

  /** Another ROW than that of the LOAN, of one PERIOD. */
  private static Supplier<Daycounthouse> withOtherRow(Supplier<Daycounthouse> maker) {
    return () -> {
      Daycounthouse x = maker.get();
      x.schedule(5, 6, 1, false, false, 0);
      return x;
    };
  }

  private static String line(Daycounthouse x, int loan, int what) {
    StringBuilder text = new StringBuilder();
    for (int k = 1; k <= x.all(loan, 5); k++) {
      text.append(k > 1 ? " " : "").append(x.planned(loan, k, what));
    }
    return text.toString();
  }

  private static void loans() {
    test(21, "LOANS, at most 3, each with an AMOUNT, a rate, a kind, a count, and the ROW of the moment at which it is "
        + "told, with n PERIODS.", x -> {
      x.schedule(0, 1, 1, false, false, 0);
      due(x.loan(1, 0, 0, 0), 0);
      x.schedule(0, 731, 1, false, false, 0);
      due(x.loan(999999, 9999, 2, 7), 1);
      x.schedule(LAST_DAY - 1, LAST_DAY, 24, false, false, 0);
      due(x.loan(1, 0, 1, 1), 2);
      due(x.all(0, 5) + " " + x.all(1, 5) + " " + x.all(2, 5), "1 24 1");
      state(x, h -> h.loan(1, 0, 0, 0));
      due(x.house(3), 3);
      due(x.planned(2, 1, 0), LAST_DAY);
    });
    test(21, "A LOAN (CHANGE).", x -> {
      change(EdgesOfLoansTest::year, 0, h -> h.loan(1, 0, 0, 0));
      change(EdgesOfLoansTest::likeParts, 1, h -> h.loan(999999, 9999, 2, 7));
    });
    test(21, "Returns its number.", x -> {
      due(threeLoans().house(3), 3);
      Daycounthouse y = threeLoans();
      y.undo();
      due(y.loan(5, 5, 0, 0), 2);
    });
    test(21, "each with an AMOUNT, a rate, a kind, a count", x -> {
      // Nothing of a LOAN that was taken back is left in the next one.
      Daycounthouse y = likeParts();
      y.holiday(0, 5);
      y.early(0, 1, 300);
      y.early(0, 12, 7);
      y.change(0, 1, 9999);
      y.change(0, 12, 0);
      y.pay(0, 50, 70);
      while (y.house(3) > 0) {
        y.undo();
      }
      due(y.loan(1200, 1200, 1, 4), 0);
      due(look(y).substring(0, 10), look(likeParts()).substring(0, 10));
      due(y.digest(), likeParts().digest());
      due(y.holiday(0, 0) + " " + y.early(0, 12, 0) + " " + y.change(0, 12, NONE) + " " + y.pay(0, 50, 1), "0 0 -1 1");
    });
    test(21, "Throws `IllegalArgumentException` if amount is not 1 to 999999, rate not 0 to 9999, kind not 0 to 2, or "
        + "count not 0 to 7", x -> {
      bounds(EdgesOfLoansTest::year, 1, 0, 999999, 0, (h, amount) -> h.loan(amount, 0, 0, 0));
      bounds(EdgesOfLoansTest::year, 0, 0, 9999, 0, (h, rate) -> h.loan(1, rate, 0, 0));
      bounds(EdgesOfLoansTest::year, 0, 0, 2, 0, (h, kind) -> h.loan(1, 0, kind, 0));
      bounds(EdgesOfLoansTest::year, 0, 0, 7, 0, (h, count) -> h.loan(1, 0, 0, count));
      bounds(Daycounthouse::new, 1, STATE, 999999, STATE, (h, amount) -> h.loan(amount, 0, 0, 0));
      bounds(EdgesOfLoansTest::threeLoans, 0, STATE, 7, STATE, (h, count) -> h.loan(1, 0, 0, count));
      argument(x, h -> h.loan(MIN, MAX, MIN, MAX));
    });
    test(21, "Throws `IllegalStateException` if there is no ROW, or there are 3", x -> {
      nothing(Daycounthouse::new, STATE, h -> h.loan(1, 0, 0, 0));
      nothing(EdgesOfLoansTest::threeLoans, STATE, h -> h.loan(1, 0, 0, 0));
      due(x.schedule(0, LAST_DAY, 1, false, false, 0), REFUSED);
      state(x, h -> h.loan(1, 0, 0, 0));
      x.schedule(0, 1, 1, false, false, 0);
      due(x.loan(1, 0, 0, 0), 0);
    });
  }

  private static void holidays() {
    test(22, "PART: 0 in the first H PERIODS (HOLIDAY, 0 at first)", x -> {
      Daycounthouse y = likeParts();
      due(y.holiday(0, 0), 0);
      due(line(y, 0, 2), "100 100 100 100 100 100 100 100 100 100 100 100");
      y.holiday(0, 1);
      due(line(y, 0, 2), "0 109 109 109 109 109 109 109 109 109 109 110");
      y.holiday(0, 11);
      due(line(y, 0, 2), "0 0 0 0 0 0 0 0 0 0 0 1200");
    });
    test(22, "Tells the HOLIDAY (CHANGE).", x -> {
      change(EdgesOfLoansTest::likeParts, 0, h -> h.holiday(0, 11));
      change(EdgesOfLoansTest::likeParts, 0, h -> h.holiday(0, 0));
    });
    test(22, "Returns how many before.", x -> {
      Daycounthouse y = likeParts();
      due(y.holiday(0, 11) + " " + y.holiday(0, 2) + " " + y.holiday(0, 2), "0 11 2");
    });
    test(22, "Throws `IndexOutOfBoundsException` if there is no such LOAN", x -> {
      noNumber(Daycounthouse::new, (h, loan) -> h.holiday(loan, 0));
      noNumber(EdgesOfLoansTest::year, (h, loan) -> h.holiday(loan, 0));
      numbers(EdgesOfLoansTest::likeParts, 0, 0, 0, 0, (h, loan) -> h.holiday(loan, 0));
      numbers(EdgesOfLoansTest::threeLoans, 0, 0, 2, 0, (h, loan) -> h.holiday(loan, 0));
      numbers(EdgesOfLoansTest::threeLoans, 0, ARGUMENT, 2, ARGUMENT, (h, loan) -> h.holiday(loan, -1));
    });
    test(22, "Throws `IllegalArgumentException` if many is not 0 to n - 1", x -> {
      bounds(EdgesOfLoansTest::likeParts, 0, 0, 11, 0, (h, many) -> h.holiday(0, many));
      bounds(withOtherRow(EdgesOfLoansTest::likeParts), 0, 0, 11, 0, (h, many) -> h.holiday(0, many));
      bounds(() -> months(1, 5, 5, 0), 0, 0, 0, 0, (h, many) -> h.holiday(0, many));
      bounds(() -> months(24, 5, 5, 0), 0, 0, 23, 0, (h, many) -> h.holiday(0, many));
    });
  }

  private static void earlySums() {
    test(23, "Then REST is less by PART, and by EARLY: what was told for that PERIOD, but at most REST (in the last "
        + "one nothing is left for it).", x -> {
      Daycounthouse y = likeParts();
      y.early(0, 2, 1000);
      due(y.planned(0, 2, 3) + " " + y.planned(0, 2, 4), "1000 0");
      y.early(0, 2, 999);
      due(y.planned(0, 2, 3) + " " + y.planned(0, 2, 4) + " " + y.all(0, 4), "999 1 12");
      y.early(0, 2, 1001);
      due(y.planned(0, 2, 3) + " " + y.planned(0, 2, 4) + " " + y.all(0, 4), "1000 0 2");
      y.early(0, 2, 999999);
      due(y.planned(0, 2, 3) + " " + y.planned(0, 2, 4), "1000 0");
      y.early(0, 5, 7);
      due(y.planned(0, 5, 3), 0);
      y.early(0, 2, 0);
      y.early(0, 5, 0);
      y.early(0, 12, 999999);
      due(y.planned(0, 12, 2) + " " + y.planned(0, 12, 3), "100 0");
      Daycounthouse z = months(1, 1, 0, 2);
      z.early(0, 1, 1);
      due(z.planned(0, 1, 2) + " " + z.planned(0, 1, 3) + " " + z.planned(0, 1, 4), "1 0 0");
    });
    test(23, "Tells an EARLY sum of a PERIOD, 0 for none (CHANGE).", x -> {
      change(EdgesOfLoansTest::likeParts, 0, h -> h.early(0, 1, 999999));
      change(EdgesOfLoansTest::likeParts, 0, h -> h.early(0, 12, 0));
      Daycounthouse y = likeParts();
      y.early(0, 1, 5);
      y.early(0, 1, 0);
      due(y.planned(0, 1, 3) + " " + y.all(0, 1), "0 1200");
    });
    test(23, "Returns the one before (0 without).", x -> {
      Daycounthouse y = likeParts();
      due(y.early(0, 1, 999999) + " " + y.early(0, 1, 1) + " " + y.early(0, 1, 0), "0 999999 1");
      due(y.early(0, 1, 0) + " " + y.early(0, 2, 3), "0 0");
    });
    test(23, "Throws `IndexOutOfBoundsException` if there is no such LOAN or PERIOD", x -> {
      noNumber(EdgesOfLoansTest::year, (h, loan) -> h.early(loan, 1, 5));
      numbers(EdgesOfLoansTest::threeLoans, 0, 0, 2, 0, (h, loan) -> h.early(loan, 1, 5));
      numbers(EdgesOfLoansTest::likeParts, 1, 0, 12, 0, (h, k) -> h.early(0, k, 5));
      numbers(withOtherRow(EdgesOfLoansTest::likeParts), 1, 0, 12, 0, (h, k) -> h.early(0, k, 5));
      numbers(() -> months(1, 5, 5, 0), 1, 0, 1, 0, (h, k) -> h.early(0, k, 5));
      numbers(() -> months(24, 5, 5, 0), 1, 0, 24, 0, (h, k) -> h.early(0, k, 5));
      numbers(EdgesOfLoansTest::likeParts, 1, ARGUMENT, 12, ARGUMENT, (h, k) -> h.early(0, k, -1));
      index(likeParts(), h -> h.early(1, 1, MIN));
    });
    test(23, "Throws `IllegalArgumentException` if sum is not 0 to 999999", x -> {
      bounds(EdgesOfLoansTest::likeParts, 0, 0, 999999, 0, (h, sum) -> h.early(0, 1, sum));
      bounds(EdgesOfLoansTest::likeParts, 0, 0, 999999, 0, (h, sum) -> h.early(0, 12, sum));
    });
  }

  private static void changes() {
    test(24, "A CHANGE tells another rate from a PERIOD on (the rate of a PERIOD is that told for the last PERIOD up "
        + "to it).", x -> {
      Daycounthouse y = likeParts();
      y.change(0, 12, 0);
      y.change(0, 2, 9999);
      due(line(y, 0, 5), "1200 9999 9999 9999 9999 9999 9999 9999 9999 9999 9999 0");
      y.change(0, 1, 1);
      due(line(y, 0, 5), "1 9999 9999 9999 9999 9999 9999 9999 9999 9999 9999 0");
      y.change(0, 2, NONE);
      due(line(y, 0, 5), "1 1 1 1 1 1 1 1 1 1 1 0");
    });
    test(24, "Tells a CHANGE of the rate, or takes it away (CHANGE).", x -> {
      change(EdgesOfLoansTest::likeParts, NONE, h -> h.change(0, 1, 0));
      change(EdgesOfLoansTest::likeParts, NONE, h -> h.change(0, 12, 1200));
      change(EdgesOfLoansTest::likeParts, NONE, h -> h.change(0, 12, NONE));
    });
    test(24, "Returns the rate told there before, or NONE.", x -> {
      Daycounthouse y = likeParts();
      due(y.change(0, 3, 0) + " " + y.change(0, 3, 9999) + " " + y.change(0, 3, NONE), "-1 0 9999");
      due(y.change(0, 3, NONE) + " " + y.change(0, 2, NONE), "-1 -1");
    });
    test(24, "Throws `IndexOutOfBoundsException` if there is no such LOAN or PERIOD", x -> {
      noNumber(EdgesOfLoansTest::year, (h, loan) -> h.change(loan, 1, 5));
      numbers(EdgesOfLoansTest::threeLoans, 0, NONE, 2, NONE, (h, loan) -> h.change(loan, 1, 5));
      numbers(EdgesOfLoansTest::likeParts, 1, NONE, 12, NONE, (h, k) -> h.change(0, k, 5));
      numbers(withOtherRow(EdgesOfLoansTest::likeParts), 1, NONE, 12, NONE, (h, k) -> h.change(0, k, 5));
      numbers(() -> months(24, 5, 5, 0), 1, NONE, 24, NONE, (h, k) -> h.change(0, k, 5));
      numbers(EdgesOfLoansTest::likeParts, 1, ARGUMENT, 12, ARGUMENT, (h, k) -> h.change(0, k, -2));
      index(likeParts(), h -> h.change(1, 1, MAX));
    });
    test(24, "Throws `IllegalArgumentException` if rate is not NONE to 9999", x ->
        bounds(EdgesOfLoansTest::likeParts, NONE, NONE, 9999, NONE, (h, rate) -> h.change(0, 1, rate)));
  }

  private static void parts() {
    test(25, "but never below 0, nor above REST; and in the last PERIOD REST.", x -> {
      // By the months the payment is 1001, by the days INTEREST is 1017.
      x.schedule(0, 3650, 12, false, false, 0);
      x.loan(1000, 9999, 0, 0);
      due(x.planned(0, 1, 1) + " " + x.planned(0, 1, 2) + " " + x.planned(0, 10, 2), "1017 0 1000");
      // The LIKE part of a twelfth of 5 coins is 1, if it is ROUNDED up: then nothing is left.
      Daycounthouse y = year();
      y.round(3);
      y.loan(5, 0, 1, 4);
      due(line(y, 0, 2), "1 1 1 1 1 0 0 0 0 0 0 0");
      y.loan(5, 0, 0, 4);
      due(line(y, 1, 2), "1 1 1 1 1 0 0 0 0 0 0 0");
      y.round(0);
      due(line(y, 0, 2), "0 0 0 0 0 0 0 0 0 0 0 5");
      due(line(y, 1, 2), "0 0 0 0 0 0 0 0 0 0 0 5");
      y.loan(999999, 9999, 2, 4);
      due(line(y, 2, 2), "0 0 0 0 0 0 0 0 0 0 0 999999");
      due(months(1, 7, 9999, 0).planned(0, 1, 2), 7);
    });
    test(25, "INTEREST: REST * rate / 10000 * SHARE of the PERIOD, ROUNDED.", x -> {
      x.schedule(0, 17532, 24, false, false, 0);
      x.loan(999999, 9999, 2, 0);
      // 731 days of 360, and 730.
      due(x.planned(0, 1, 0) + " " + x.planned(0, 1, 1), "731 2030350");
      due(x.planned(0, 2, 0) + " " + x.planned(0, 2, 1), "1461 2027573");
      Daycounthouse y = months(1, 1, 5999, 2);
      due(y.planned(0, 1, 1), 0);
      y.change(0, 1, 6000);
      due(y.planned(0, 1, 1), 0);
      Daycounthouse z = months(1, 10, 6000, 2);
      due(z.planned(0, 1, 1), 1);
      z.change(0, 1, 5999);
      due(z.planned(0, 1, 1), 0);
    });
    test(25, "INTEREST: REST * rate / 10000 * SHARE of the PERIOD", x -> {
      // By each count as simple() of REST; the last PERIODS are January 29 to 31 and January 15 to February 14.
      for (int i = 0; i < 16; i++) {
        int count = i / 2;
        Daycounthouse y = new Daycounthouse();
        y.feast(5, 1);
        int day = i % 2 == 0 ? 28 : 14;
        y.schedule(day, i % 2 == 0 ? 396 : 410, 1, false, false, 0);
        y.loan(999999, 475, 1, count);
        y.early(0, 3, 12345);
        y.change(0, 8, 9999);
        int rest = 999999;
        int last = y.all(0, 5);
        for (int k = 1; k <= last; k++) {
          int end = y.planned(0, k, 0);
          due(count + " " + k + ": " + y.planned(0, k, 1),
              count + " " + k + ": " + y.simple(rest, k < 8 ? 475 : 9999, day, end, count));
          rest = y.planned(0, k, 4);
          day = end;
        }
        due(last + " " + rest, "13 0");
      }
    });
    test(25, "Returns that of its PLAN.", x -> {
      Daycounthouse y = likeParts();
      due(line(y, 0, 0), "31 60 91 121 152 182 213 244 274 305 335 366");
      due(line(y, 0, 1), "12 11 10 9 8 7 6 5 4 3 2 1");
      due(line(y, 0, 4), "1100 1000 900 800 700 600 500 400 300 200 100 0");
    });
    test(25, "Throws `IndexOutOfBoundsException` if there is no such LOAN or PERIOD", x -> {
      noNumber(EdgesOfLoansTest::year, (h, loan) -> h.planned(loan, 1, 0));
      numbers(EdgesOfLoansTest::threeLoans, 0, 31, 2, 31, (h, loan) -> h.planned(loan, 1, 0));
      numbers(EdgesOfLoansTest::likeParts, 1, 31, 12, 366, (h, k) -> h.planned(0, k, 0));
      numbers(withOtherRow(EdgesOfLoansTest::likeParts), 1, 31, 12, 366, (h, k) -> h.planned(0, k, 0));
      numbers(() -> months(1, 5, 5, 0), 1, 31, 1, 31, (h, k) -> h.planned(0, k, 0));
      numbers(() -> months(24, 5, 5, 0), 1, 31, 24, 731, (h, k) -> h.planned(0, k, 0));
      numbers(EdgesOfLoansTest::likeParts, 1, ARGUMENT, 12, ARGUMENT, (h, k) -> h.planned(0, k, 6));
      index(likeParts(), h -> h.planned(-1, 1, -1));
    });
    test(25, "0 the DAY of its end, 1 INTEREST, 2 PART, 3 EARLY that counts, 4 REST behind all of these, 5 its "
        + "rate", x -> {
      Daycounthouse y = likeParts();
      y.early(0, 11, 999999);
      String[] first = {"31", "12", "100", "0", "1100", "1200"};
      String[] ahead = {"335", "2", "100", "100", "0", "1200"};
      String[] last = {"366", "0", "0", "0", "0", "1200"};
      for (int what = 0; what <= 5; what++) {
        due(y.planned(0, 1, what) + " " + y.planned(0, 11, what) + " " + y.planned(0, 12, what),
            first[what] + " " + ahead[what] + " " + last[what]);
      }
    });
    test(25, "Throws `IllegalArgumentException` if what is not 0 to 5", x ->
        bounds(EdgesOfLoansTest::likeParts, 0, 31, 5, 1200, (h, what) -> h.planned(0, 1, what)));
  }

  /** By the library's great numbers, a half up: rest * r * (1 + r)^n / ((1 + r)^n - 1), r as growth / 120000. */
  private static int payment(int rest, long growth, int n) {
    BigInteger year = BigInteger.valueOf(120000);
    BigInteger power = year.add(BigInteger.valueOf(growth)).pow(n);
    BigInteger top = BigInteger.valueOf(rest * growth).multiply(power);
    BigInteger bottom = year.multiply(power.subtract(year.pow(n)));
    return top.shiftLeft(1).add(bottom).divide(bottom.shiftLeft(1)).intValue();
  }

  private static void likePayments() {
    test(25, "payment, with r as rate * MONTHS / 120000: R * r * (1 + r)^N / ((1 + r)^N - 1), or R / N, if r is 0; "
        + "ROUNDED.", x -> {
      for (int months : new int[] {1, 23, 24}) {
        for (int rate : new int[] {1, 2, 9998, 9999}) {
          x.schedule(9, x.later(9, months * 24, false), months, false, false, 0);
          x.loan(999999, rate, 0, 4);
          int paid = x.planned(0, 1, 1) + x.planned(0, 1, 2);
          due(paid, payment(999999, (long) rate * months, 24));
          x.undo();
        }
      }
      due(line(months(4, 10, 0, 0), 0, 2), "3 3 3 1");
      // Of 24 PERIODS 11 coins bring less than a half to each; 12 a half, and by the least rate a bit more than that.
      String[] dues = {"0 0 0", "0 1 1", "0 0 1", "1 1 1"};
      for (int mode = 0; mode <= 3; mode++) {
        Daycounthouse y = months(24, 11, 0, 0);
        y.loan(12, 0, 0, 4);
        y.loan(12, 1, 0, 4);
        y.round(mode);
        int third = y.planned(2, 1, 1) + y.planned(2, 1, 2);
        due(y.planned(0, 1, 2) + " " + y.planned(1, 1, 2) + " " + third, dues[mode]);
      }
      due(line(months(3, 1, 9999, 0), 0, 2) + ", " + line(months(2, 1, 9999, 0), 0, 2), "0 0 1, 1 0");
      due(months(24, 1, 1, 0).planned(0, 23, 4) + " " + months(24, 12, 1, 0).planned(0, 12, 4), "1 0");
      due(line(months(24, 999999, 0, 0), 0, 2).startsWith("41667 41667 "), true);
      due(months(1, 999999, 9999, 0).planned(0, 1, 2), 999999);
    });
    test(25, "LIKE payment and part are made in the first PERIOD behind the HOLIDAY, and made anew in each later "
        + "PERIOD whose rate is not that of the one ahead, or that stands right behind one with an EARLY sum (as told, "
        + "above 0)", x -> {
      // Twelve parts of 1006 are 84 at first; of 166 behind ten of them two would be 83.
      Daycounthouse y = months(12, 1006, 1200, 1);
      due(line(y, 0, 2), "84 84 84 84 84 84 84 84 84 84 84 82");
      y.change(0, 11, 1200);
      due(y.planned(0, 11, 2), 84);
      for (int rate : new int[] {1201, 1199, 0, 9999}) {
        y.change(0, 11, rate);
        due(y.planned(0, 11, 2), 83);
      }
      y.change(0, 11, NONE);
      y.early(0, 10, 1);
      due(y.planned(0, 11, 2), 83);
      y.early(0, 10, 0);
      due(y.planned(0, 11, 2), 84);
      // In the PERIOD behind that one the rate is the same again: 250 by 3 are 83, of 167 by 2 it would be 84.
      y.change(0, 10, 1201);
      due(y.planned(0, 10, 2) + " " + y.planned(0, 11, 2) + " " + y.planned(0, 12, 2), "83 83 84");
      y.change(0, 10, NONE);
      // As told, also where nothing of it counts: REST is 0 already.
      y.early(0, 9, 999999);
      y.early(0, 10, 5);
      due(y.planned(0, 11, 2), 0);
      y.early(0, 9, 0);
      y.early(0, 10, 0);
      // In the HOLIDAY nothing is made, in the first PERIOD behind it all.
      y.holiday(0, 10);
      y.early(0, 3, 6);
      y.change(0, 4, 7);
      due(y.planned(0, 10, 2) + " " + y.planned(0, 11, 2) + " " + y.planned(0, 12, 2), "0 500 500");
    });
    test(25, "with REST R, and N PERIODS from that one on", x -> {
      // Payments made behind the HOLIDAY, by a lower rate, right behind an EARLY sum, and by a higher rate.
      Daycounthouse y = months(12, 100000, 1200, 0);
      y.holiday(0, 2);
      y.change(0, 5, 600);
      y.early(0, 7, 5000);
      y.change(0, 10, 1300);
      due(y.planned(0, 1, 1) + " " + y.planned(0, 2, 1) + " " + y.planned(0, 2, 4), "1000 1000 100000");
      int like = 0;
      for (int k = 3; k <= 11; k++) {
        if (k == 3 || k == 5 || k == 8 || k == 10) {
          like = payment(y.planned(0, k - 1, 4), y.planned(0, k, 5), 13 - k);
        }
        due(k + ": " + (y.planned(0, k, 1) + y.planned(0, k, 2)), k + ": " + like);
      }
      due(y.planned(0, 7, 3) + " " + y.planned(0, 12, 2), "5000 " + y.planned(0, 11, 4));
    });
    test(25, "or R / N, if r is 0; ROUNDED.", x -> {
      // Two years at 10 per 100: 1210 of 2100 are whole, 302.5 of 525 and 907.5 of 1575 are halves.
      String[] dues = {"1210 302 907", "1210 303 908", "1210 302 908", "1210 303 908"};
      x.schedule(0, 731, 12, false, false, 0);
      x.loan(2100, 1000, 0, 7);
      x.loan(525, 1000, 0, 7);
      x.loan(1575, 1000, 0, 7);
      for (int mode = 0; mode <= 3; mode++) {
        x.round(mode);
        StringBuilder text = new StringBuilder();
        for (int loan = 0; loan < 3; loan++) {
          text.append(loan > 0 ? " " : "").append(x.planned(loan, 1, 1) + x.planned(loan, 1, 2));
        }
        due(text.toString(), dues[mode]);
      }
    });
    test(25, "with REST R, and N PERIODS from that one on: part R / N", x -> {
      due(line(months(24, 24, 0, 1), 0, 2), "1 1 1 1 1 1 1 1 1 1 1 1 1 1 1 1 1 1 1 1 1 1 1 1");
      due(line(months(24, 11, 0, 1), 0, 2), "0 0 0 0 0 0 0 0 0 0 0 0 0 0 0 0 0 0 0 0 0 0 0 11");
      due(line(months(24, 12, 0, 1), 0, 2), "1 1 1 1 1 1 1 1 1 1 1 1 0 0 0 0 0 0 0 0 0 0 0 0");
      due(line(months(1, 999999, 0, 1), 0, 2), "999999");
    });
    test(25, "Its PLAN, PERIOD by PERIOD, with REST (AMOUNT at first)", x -> {
      due(months(2, 1, 0, 2).planned(0, 1, 4) + " " + months(2, 1, 0, 2).planned(0, 2, 4), "1 0");
      due(months(2, 999999, 0, 2).planned(0, 1, 4), 999999);
    });
  }

  private static void totals() {
    test(26, "Returns that of its PLAN.", x -> {
      Daycounthouse y = threeLoans();
      y.early(1, 1, 1100);
      StringBuilder text = new StringBuilder();
      for (int what = 0; what <= 5; what++) {
        text.append(y.all(1, what)).append(' ').append(y.all(2, what)).append(' ');
      }
      due(text.toString(), "12 144 1200 1200 1212 1344 112 1212 1 12 12 12 ");
      // All is paid EARLY: no INTEREST, no PART.
      Daycounthouse z = months(2, 1, 0, 2);
      z.early(0, 1, 1);
      due(z.all(0, 0) + " " + z.all(0, 1) + " " + z.all(0, 2) + " " + z.all(0, 3) + " " + z.all(0, 4), "0 1 1 0 1");
      x.schedule(0, 17532, 24, false, false, 0);
      x.loan(999999, 9999, 2, 0);
      due(x.all(0, 5) + " " + x.all(0, 4) + " " + x.all(0, 1), "24 24 999999");
      int interest = 0;
      for (int k = 1; k <= 24; k++) {
        interest += x.planned(0, k, 1);
      }
      due(x.all(0, 0), interest);
      due(x.all(0, 2), interest + 999999);
      due(x.all(0, 3), x.planned(0, 24, 1) + 999999);
    });
    test(26, "3 the greatest of INTEREST and PART together in a PERIOD, 4 how many PERIODS have a REST above 0 ahead "
        + "of them", x -> {
      // EARLY sums are no part of the greatest; all EARLY in the first, the last but one, and the last PERIOD.
      int[][] dues = {{1, 112, 1}, {11, 112, 11}, {12, 112, 12}};
      for (int[] due : dues) {
        Daycounthouse y = likeParts();
        y.early(0, due[0], 999999);
        due(y.all(0, 3) + " " + y.all(0, 4), due[1] + " " + due[2]);
      }
      Daycounthouse z = months(24, 1, 0, 2);
      due(z.all(0, 3) + " " + z.all(0, 4) + " " + z.all(0, 5), "1 24 24");
      due(months(1, 1, 0, 2).all(0, 4), 1);
    });
    test(26, "Throws `IndexOutOfBoundsException` if there is no such LOAN", x -> {
      noNumber(EdgesOfLoansTest::year, (h, loan) -> h.all(loan, 5));
      numbers(EdgesOfLoansTest::likeParts, 0, 12, 0, 12, (h, loan) -> h.all(loan, 5));
      numbers(EdgesOfLoansTest::threeLoans, 0, 12, 2, 12, (h, loan) -> h.all(loan, 5));
      numbers(EdgesOfLoansTest::threeLoans, 0, ARGUMENT, 2, ARGUMENT, (h, loan) -> h.all(loan, 6));
    });
    test(26, "Throws `IllegalArgumentException` if what is not 0 to 5", x ->
        bounds(EdgesOfLoansTest::likeParts, 0, 78, 5, 12, (h, what) -> h.all(0, what)));
  }

  /** By the library's great numbers: whether what the PERIODS bring is worth AMOUNT or more. */
  private static boolean isReached(Daycounthouse x, int n) {
    BigInteger million = BigInteger.valueOf(1000000);
    BigInteger growth = million.add(BigInteger.valueOf(n));
    BigInteger sum = BigInteger.ZERO;
    int last = x.all(0, 5);
    for (int k = 1; k <= last; k++) {
      BigInteger flow = BigInteger.valueOf(x.planned(0, k, 1) + x.planned(0, k, 2) + x.planned(0, k, 3));
      sum = sum.add(flow.multiply(million.pow(k)).multiply(growth.pow(last - k)));
    }
    return sum.compareTo(growth.pow(last).multiply(BigInteger.valueOf(x.all(0, 1)))) >= 0;
  }

  private static void rates() {
    test(27, "RATE of a LOAN: the greatest n of 0 to 999999 by which the sum, over its PERIODS k, of (INTEREST, PART "
        + "and EARLY of k) / (1 + n / 1000000)^k is AMOUNT or more.", x -> {
      due(months(24, 999999, 0, 0).rateOf(0), 0);
      due(months(1, 1, 0, 0).rateOf(0), 0);
      // In a PERIOD of 24 months: 2 coins for 1, 5 for 3, 1999897 for 999999.
      x.schedule(0, 731, 24, false, false, 0);
      x.loan(1, 9999, 0, 4);
      x.loan(3, 3333, 0, 4);
      due(x.planned(0, 1, 1) + " " + x.rateOf(0), "2 999999");
      due(x.planned(1, 1, 1) + " " + x.rateOf(1), "2 666666");
      x.change(1, 1, 5000);
      due(x.planned(1, 1, 1) + " " + x.rateOf(1), "3 999999");
      x.schedule(0, 366, 12, false, false, 0);
      x.loan(999999, 9999, 0, 4);
      due(x.planned(2, 1, 1) + " " + x.rateOf(2), "999899 999899");
      x.undo();
      x.loan(999999, 0, 0, 4);
      x.round(3);
      x.change(2, 1, 1);
      due(x.planned(2, 1, 1) + " " + x.rateOf(2), "100 100");
    });
    test(27, "Returns its RATE.", x -> {
      // One in a hundred is AMOUNT to the coin; a coin of INTEREST less is not.
      Daycounthouse y = threeLoans();
      due(y.rateOf(2) + " " + y.rateOf(1), "10000 10000");
      due(months(24, 100000, 1200, 2).rateOf(0), 10000);
      due(months(24, 999999, 9999, 2).rateOf(0), 83325);
      Daycounthouse z = months(24, 100000, 1200, 2);
      z.early(0, 5, 99900);
      due(z.planned(0, 24, 1) + " " + z.rateOf(0), "1 10000");
      z.early(0, 5, 99999);
      due(z.planned(0, 24, 1) + " " + z.rateOf(0), "0 9999");
      z.early(0, 5, 100000);
      due(z.rateOf(0), 10000);
    });
    test(27, "is AMOUNT or more.", x -> {
      x.schedule(0, 17532, 24, false, false, 0);
      for (int kind = 0; kind < 3; kind++) {
        for (int rate : new int[] {1, 2500, 4999, 9999}) {
          x.loan(999999, rate, kind, 2);
          int n = x.rateOf(0);
          due(isReached(x, n) + " " + (n == 999999 || !isReached(x, n + 1)), "true true");
          x.undo();
        }
      }
    });
    test(27, "Throws `IndexOutOfBoundsException` if there is no such LOAN", x -> {
      noNumber(Daycounthouse::new, Daycounthouse::rateOf);
      noNumber(EdgesOfLoansTest::year, Daycounthouse::rateOf);
      numbers(EdgesOfLoansTest::likeParts, 0, 10000, 0, 10000, Daycounthouse::rateOf);
      numbers(EdgesOfLoansTest::threeLoans, 0, threeLoans().rateOf(0), 2, 10000, Daycounthouse::rateOf);
    });
  }

  /** Fees, interest, parts, PURSE, all paid, all FEES at the end of a day. */
  private static String owed(Daycounthouse x, int day) {
    StringBuilder text = new StringBuilder();
    for (int what = 0; what <= 5; what++) {
      text.append(what > 0 ? " " : "").append(x.owes(0, day, what));
    }
    return text.toString();
  }

  private static Daycounthouse withFee(int fee, int grace) {
    Daycounthouse x = likeParts();
    x.late(fee, grace);
    return x;
  }

  private static void fees() {
    test(28, "The house has a FEE (0 at first) and days of GRACE (0 at first)", x -> {
      due(x.house(7) + " " + x.house(8), "0 0");
      due(owed(likeParts(), LAST_DAY), "0 78 1200 0 0 0");
      due(owed(withFee(1, 0), 31) + ", " + owed(withFee(1, 0), 32), "0 12 100 0 0 0, 1 12 100 0 0 1");
    });
    test(28, "on the day that is GRACE and 1 behind the end of a PERIOD the FEE is due", x -> {
      due(withFee(25, 5).owes(0, 36, 0) + " " + withFee(25, 5).owes(0, 37, 0), "0 25");
      due(withFee(25, 60).owes(0, 91, 0) + " " + withFee(25, 60).owes(0, 92, 0), "0 25");
      due(withFee(25, 60).owes(0, 120, 0) + " " + withFee(25, 60).owes(0, 121, 0), "25 50");
      due(owed(withFee(9999, 60), LAST_DAY), "119988 78 1200 0 0 119988");
      // The last PERIOD ends on December 31, 2099: its FEE is due on no DAY.
      x.schedule(LAST_DAY - 2, LAST_DAY, 1, false, false, 0);
      x.loan(100, 0, 0, 0);
      x.late(25, 0);
      due(owed(x, LAST_DAY), "0 0 100 0 0 0");
      x.schedule(LAST_DAY - 2, LAST_DAY - 1, 1, false, false, 0);
      x.loan(100, 0, 0, 0);
      due(x.owes(1, LAST_DAY - 1, 5) + " " + x.owes(1, LAST_DAY, 5), "0 25");
    });
    test(28, "the FEE is due, if what went to interest and parts on the days ahead is less than all of both that was "
        + "due up to the end of that PERIOD.", x -> {
      // 112 are due on day 31, and 223 up to day 60.
      Daycounthouse y = withFee(25, 5);
      y.pay(0, 36, 111);
      due(owed(y, 37), "25 0 1 0 111 25");
      y.pay(0, 36, 1);
      due(owed(y, 37), "0 0 0 0 112 0");
      y.pay(0, 65, 110);
      due(y.owes(0, 66, 5), 25);
      y.pay(0, 65, 1);
      due(y.owes(0, 66, 5), 0);
      // Nothing was due: no FEE.
      Daycounthouse z = months(3, 10, 0, 2);
      z.late(25, 0);
      due(z.owes(0, 61, 5) + " " + z.owes(0, 91, 5) + " " + z.owes(0, 92, 5), "0 0 25");
    });
    test(28, "what went to interest and parts on the days ahead", x -> {
      // What is paid on the day of the FEE comes too late for it.
      Daycounthouse y = withFee(25, 5);
      y.pay(0, 37, 112);
      due(owed(y, 37), "0 0 25 0 112 25");
      // What waits in the PURSE goes to them on the day on which they are due.
      Daycounthouse z = withFee(25, 0);
      z.pay(0, 0, 112);
      due(owed(z, 30) + ", " + owed(z, 32), "0 0 0 112 112 0, 0 0 0 0 112 0");
    });
    test(28, "what went to interest and parts", x -> {
      // 25 of what is paid on day 40 goes to the FEE, or nothing, so that day 66 has another FEE, or none.
      Daycounthouse y = withFee(25, 5);
      y.pay(0, 40, 112);
      y.pay(0, 60, 111);
      due(owed(y, 66), "25 0 25 0 223 50");
      y.order(3);
      due(owed(y, 66), "25 0 0 0 223 25");
      y.order(2);
      due(owed(y, 66), "25 0 25 0 223 50");
    });
    test(28, "all of both that was due up to the end of that PERIOD.", x -> {
      // By 60 days of GRACE the FEE of the first PERIOD is asked for on day 92, when two more are due.
      Daycounthouse y = withFee(25, 60);
      y.pay(0, 91, 111);
      due(owed(y, 92), "25 0 222 0 111 25");
      y.pay(0, 91, 1);
      due(owed(y, 92), "0 0 221 0 112 0");
      due(y.owes(0, 121, 0), 25);
    });
    test(28, "(EARLY sums are no part of it.)", x -> {
      Daycounthouse y = withFee(25, 5);
      y.early(0, 1, 500);
      y.pay(0, 31, 112);
      due(owed(y, 37), "0 0 0 0 112 0");
      due(owed(y, 60), "0 6 55 0 112 0");
    });
  }

  private static void lateAndOrder() {
    test(28, "Tells FEE and GRACE (CHANGE).", x -> {
      change(Daycounthouse::new, 0, h -> h.late(9999, 60));
      change(Daycounthouse::new, 0, h -> h.late(0, 0));
      x.late(7, 60);
      due(x.house(7) + " " + x.house(8), "7 60");
      x.late(0, 59);
      due(x.house(7) + " " + x.house(8), "0 59");
      x.late(9, 0);
      due(x.house(7) + " " + x.house(8), "9 0");
    });
    test(28, "Returns FEE before.", x -> {
      due(x.late(9999, 3) + " " + x.late(0, 4) + " " + x.late(0, 5), "0 9999 0");
    });
    test(28, "Throws `IllegalArgumentException` if fee is not 0 to 9999, or grace not 0 to 60", x -> {
      bounds(Daycounthouse::new, 0, 0, 9999, 0, (h, fee) -> h.late(fee, 60));
      bounds(Daycounthouse::new, 0, 0, 60, 0, (h, grace) -> h.late(9999, grace));
      argument(x, h -> h.late(MIN, MAX));
    });
    test(29, "in the ORDER of the house: 0 fees, interest, parts; 1 fees, parts, interest; 2 interest, fees, parts; 3 "
        + "interest, parts, fees; 4 parts, fees, interest; 5 parts, interest, fees.", x -> {
      // Owed are 25, 12 and 100, when 30 and then 90 are paid, and then more than what is left.
      String[] first = {"0 7 100", "0 12 95", "7 0 100", "25 0 82", "25 12 70", "25 12 70"};
      String[] then = {"0 0 17", "0 12 5", "0 0 17", "17 0 0", "5 12 0", "17 0 0"};
      Daycounthouse y = withFee(25, 0);
      y.pay(0, 40, 30);
      y.pay(0, 50, 90);
      for (int order = 0; order <= 5; order++) {
        y.order(order);
        due(owed(y, 40), first[order] + " 0 30 25");
        due(owed(y, 50), then[order] + " 0 120 25");
      }
      y.pay(0, 55, 20);
      for (int order = 0; order <= 5; order++) {
        y.order(order);
        due(owed(y, 55), "0 0 0 3 140 25");
      }
    });
    test(29, "Tells the ORDER (CHANGE).", x -> {
      change(Daycounthouse::new, 0, h -> h.order(5));
      change(Daycounthouse::new, 0, h -> h.order(0));
    });
    test(29, "Returns the one before.", x -> due(x.order(5) + " " + x.order(1) + " " + x.order(1), "0 5 1"));
    test(29, "Throws `IllegalArgumentException` if order is not 0 to 5", x ->
        bounds(Daycounthouse::new, 0, 0, 5, 0, Daycounthouse::order));
  }

  /** A LOAN from day 10 on, with 20 days on which something was paid: 10 to 29. */
  private static Daycounthouse twentyDays() {
    Daycounthouse x = new Daycounthouse();
    x.schedule(10, 376, 1, false, false, 0);
    x.loan(1200, 1200, 1, 4);
    x.loan(1200, 1200, 1, 4);
    for (int i = 0; i < 20; i++) {
      x.pay(0, 10 + i, 1 + i);
    }
    return x;
  }

  private static void payments() {
    test(30, "What is paid on a day comes to the PURSE.", x -> {
      Daycounthouse y = likeParts();
      y.pay(0, 5, 999999);
      due(owed(y, 4) + ", " + owed(y, 5), "0 0 0 0 0 0, 0 0 0 999999 999999 0");
      due(owed(y, 31) + ", " + owed(y, LAST_DAY), "0 0 0 999887 999999 0, 0 0 0 998721 999999 0");
    });
    test(30, "Something is paid on a day of a LOAN; what was paid on that day stays, and this comes to it "
        + "(CHANGE).", x -> {
      change(EdgesOfLoansTest::likeParts, 999999, h -> h.pay(0, 0, 999999));
      change(EdgesOfLoansTest::likeParts, 1, h -> h.pay(0, LAST_DAY, 1));
      Daycounthouse y = likeParts();
      y.pay(0, 0, 1);
      due(y.pay(0, 0, 2), 3);
      y.undo();
      due(y.owes(0, 0, 3), 1);
    });
    test(30, "Returns all that is paid on that day.", x -> {
      Daycounthouse y = likeParts();
      // As much as 512 calls can pay.
      for (int i = 1; i <= 500; i++) {
        due(y.pay(0, LAST_DAY, 999999), i * 999999);
      }
      due(y.owes(0, LAST_DAY, 4) + " " + y.owes(0, LAST_DAY - 1, 4), 500 * 999999 + " 0");
      due(y.owes(0, LAST_DAY, 3), 500 * 999999 - 1278);
    });
    test(30, "Throws `IndexOutOfBoundsException` if there is no such LOAN", x -> {
      noNumber(EdgesOfLoansTest::year, (h, loan) -> h.pay(loan, 0, 1));
      numbers(EdgesOfLoansTest::likeParts, 0, 1, 0, 1, (h, loan) -> h.pay(loan, 0, 1));
      numbers(EdgesOfLoansTest::threeLoans, 0, 1, 2, 1, (h, loan) -> h.pay(loan, 0, 1));
      numbers(EdgesOfLoansTest::threeLoans, 0, ARGUMENT, 2, ARGUMENT, (h, loan) -> h.pay(loan, -1, 0));
    });
    test(30, "Throws `IllegalArgumentException` if day is no DAY, or ahead of the first one of its ROW, or sum is not "
        + "1 to 999999", x -> {
      bounds(EdgesOfLoansTest::likeParts, 0, 5, LAST_DAY, 5, (h, day) -> h.pay(0, day, 5));
      bounds(EdgesOfLoansTest::likeParts, 1, 1, 999999, 999999, (h, sum) -> h.pay(0, 0, sum));
      bounds(EdgesOfLoansTest::twentyDays, 10, 6, LAST_DAY, STATE, (h, day) -> h.pay(0, day, 5));
      bounds(EdgesOfLoansTest::twentyDays, 10, 5, LAST_DAY, 5, (h, day) -> h.pay(1, day, 5));
      bounds(EdgesOfLoansTest::twentyDays, 1, STATE, 999999, STATE, (h, sum) -> h.pay(0, 30, sum));
      bounds(withOtherRow(EdgesOfLoansTest::twentyDays), 10, 6, LAST_DAY, STATE, (h, day) -> h.pay(0, day, 5));
      argument(twentyDays(), h -> h.pay(0, 0, 5));
    });
    test(30, "Throws `IllegalStateException` if there are 20 days on which something was paid on that LOAN, and this "
        + "is none of them", x -> {
      nothing(EdgesOfLoansTest::twentyDays, STATE, h -> h.pay(0, 30, 5));
      nothing(EdgesOfLoansTest::twentyDays, STATE, h -> h.pay(0, LAST_DAY, 999999));
      Daycounthouse y = twentyDays();
      due(y.owes(0, LAST_DAY, 4), 210);
      for (int i = 0; i < 20; i++) {
        due(y.pay(0, 10 + i, 999999), 1000000 + i);
      }
      for (int i = 0; i < 20; i++) {
        due(y.pay(1, 50 + i, 1), 1);
      }
      state(y, h -> h.pay(1, 49, 1));
      y.undo();
      due(y.pay(1, 49, 1), 1);
    });
  }

  private static void ledgers() {
    test(31, "LEDGER of a LOAN, day by day from its first DAY on: at the end of a PERIOD its INTEREST and PART are "
        + "due.", x -> {
      Daycounthouse y = likeParts();
      due(owed(y, 0) + ", " + owed(y, 30) + ", " + owed(y, 31), "0 0 0 0 0 0, 0 0 0 0 0 0, 0 12 100 0 0 0");
      due(owed(y, 365) + ", " + owed(y, 366), "0 77 1100 0 0 0, 0 78 1200 0 0 0");
      due(owed(y, LAST_DAY), "0 78 1200 0 0 0");
    });
    test(31, "On each day first what is due comes, then fees, then the PURSE pays what is owed", x -> {
      // By 28 days of GRACE the FEE of the first PERIOD is due on the day on which the second one ends, day 60.
      Daycounthouse y = withFee(25, 28);
      y.pay(0, 60, 30);
      due(owed(y, 59) + ", " + owed(y, 60), "0 12 100 0 0 0, 0 18 200 0 30 25");
      y.order(2);
      due(owed(y, 60), "18 0 200 0 30 25");
      y.pay(0, 60, 218);
      due(owed(y, 60), "0 0 0 0 248 25");
      y.pay(0, 60, 1);
      due(owed(y, 60), "0 0 0 1 249 25");
    });
    test(31, "LEDGER of a LOAN, day by day from its first DAY on", x -> {
      // As many days with something on them as there can be: 24 ends, 24 FEES, 20 days on which a coin is paid.
      Daycounthouse y = months(24, 2400, 0, 1);
      y.late(25, 3);
      for (int day = 0; day < 19; day++) {
        y.pay(0, day, 1);
      }
      y.pay(0, LAST_DAY, 1);
      due(owed(y, 18) + ", " + owed(y, 31), "0 0 0 19 19 0, 0 0 81 0 19 0");
      due(owed(y, 734) + ", " + owed(y, 735), "575 0 2381 0 19 575, 600 0 2381 0 19 600");
      due(owed(y, LAST_DAY - 1) + ", " + owed(y, LAST_DAY), "600 0 2381 0 19 600, 599 0 2381 0 20 600");
    });
    test(31, "Returns that of its LEDGER (0 ahead of its first DAY).", x -> {
      x.schedule(100, 130, 1, false, false, 0);
      x.loan(100, 0, 0, 0);
      x.pay(0, 100, 7);
      due(owed(x, 0) + ", " + owed(x, 99), "0 0 0 0 0 0, 0 0 0 0 0 0");
      due(owed(x, 100) + ", " + owed(x, 129), "0 0 0 7 7 0, 0 0 0 7 7 0");
      due(owed(x, 130), "0 0 93 0 7 0");
    });
    test(31, "0 fees, 1 interest, 2 parts that are owed at the end of that day, 3 PURSE, 4 all that was paid up to it, "
        + "5 all FEES that were due up to it", x -> {
      Daycounthouse y = withFee(25, 0);
      y.pay(0, 31, 12);
      y.pay(0, 32, 130);
      due(owed(y, 30) + ", " + owed(y, 31), "0 0 0 0 0 0, 0 0 100 0 12 0");
      due(owed(y, 32) + ", " + owed(y, 33), "0 0 0 5 142 25, 0 0 0 5 142 25");
    });
    test(31, "Throws `IndexOutOfBoundsException` if there is no such LOAN", x -> {
      noNumber(EdgesOfLoansTest::year, (h, loan) -> h.owes(loan, 0, 0));
      numbers(EdgesOfLoansTest::likeParts, 0, 0, 0, 0, (h, loan) -> h.owes(loan, 0, 0));
      numbers(EdgesOfLoansTest::threeLoans, 0, 1200, 2, 1200, (h, loan) -> h.owes(loan, LAST_DAY, 2));
      numbers(EdgesOfLoansTest::threeLoans, 0, ARGUMENT, 2, ARGUMENT, (h, loan) -> h.owes(loan, -1, 6));
    });
    test(31, "Throws `IllegalArgumentException` if day is no DAY, or what is not 0 to 5", x -> {
      days(EdgesOfLoansTest::likeParts, 0, 1200, (h, day) -> h.owes(0, day, 2));
      bounds(EdgesOfLoansTest::likeParts, 0, 0, 5, 0, (h, what) -> h.owes(0, LAST_DAY, what));
      bounds(EdgesOfLoansTest::twentyDays, 0, 0, 5, 0, (h, what) -> h.owes(0, 0, what));
      argument(likeParts(), h -> h.owes(0, MAX, MIN));
    });
  }

  /** A PLAN and what it comes to. */
  private static String plan(Daycounthouse x, int loan) {
    StringBuilder text = new StringBuilder();
    for (int what = 0; what <= 5; what++) {
      text.append(line(x, loan, what)).append(", ").append(x.all(loan, what)).append("; ");
    }
    return text.append(x.rateOf(loan)).toString();
  }

  private static void moments() {
    test(21, "and the ROW of the moment at which it is told, with n PERIODS.", x -> {
      // Neither the DAYS nor the MONTHS of a later ROW, nor a FEAST on one of the DAYS, touch what was told by then.
      x.schedule(0, 366, 1, false, false, 1);
      x.loan(120000, 1200, 0, 4);
      String before = plan(x, 0);
      due(line(x, 0, 0), "31 60 93 121 152 184 213 244 275 305 335 366");
      x.schedule(0, 366, 24, false, false, 0);
      due(plan(x, 0), before);
      x.feast(5, 1);
      due(plan(x, 0), before);
      x.loan(120000, 1200, 0, 4);
      // 24 MONTHS by 12 per 100 are 24 per 100.
      due(line(x, 1, 0) + " " + (x.planned(1, 1, 2) + x.planned(1, 1, 1)), "366 " + (120000 + x.planned(1, 1, 1)));
      x.schedule(0, 731, 12, false, false, 0);
      x.loan(2100, 1000, 0, 7);
      due(x.planned(2, 1, 1) + x.planned(2, 1, 2), 1210);
      x.schedule(0, 731, 1, false, false, 0);
      due(x.planned(2, 1, 1) + x.planned(2, 1, 2), 1210);
      due(plan(x, 0), before);
    });
    test(21, "ROUNDED by the MODE (1 at first)", x -> {
      // The MODE is that of the house when one asks, whatever it was when the LOAN was told.
      String[] interests = {"0", "1", "0", "1"};
      String[] parts = {"2 2 2 4", "3 3 3 1", "2 2 2 4", "3 3 3 1"};
      for (int told = 0; told <= 3; told++) {
        Daycounthouse y = new Daycounthouse();
        y.round(told);
        y.schedule(0, 31, 1, false, false, 0);
        y.loan(10, 6000, 2, 4);
        y.schedule(0, 121, 1, false, false, 0);
        y.loan(10, 0, 1, 4);
        for (int mode = 0; mode <= 3; mode++) {
          y.round(mode);
          due(line(y, 0, 1) + ", " + y.all(0, 0), interests[mode] + ", " + interests[mode]);
          due(line(y, 1, 2), parts[mode]);
          due(y.owes(0, 31, 1) + ", " + y.owes(1, 31, 2), interests[mode] + ", " + parts[mode].substring(0, 1));
        }
      }
    });
    test(25, "A BANK DAY is a DAY that is no Saturday, no Sunday and no FEAST.", x -> {
      // SHARES of BANK DAYS hang on the FEASTS of the house when one asks: January has 21, and 20 with a FEAST.
      x.schedule(0, 31, 1, false, false, 0);
      x.loan(252000, 10, 2, 6);
      due(x.planned(0, 1, 1) + " " + x.owes(0, 31, 1) + " " + x.rateOf(0), "21 21 83");
      x.feast(1, 3);
      due(x.planned(0, 1, 1) + " " + x.owes(0, 31, 1) + " " + x.rateOf(0), "20 20 79");
      x.unfeast();
      due(x.planned(0, 1, 1) + " " + x.owes(0, 31, 1), "21 21");
    });
    test(28, "The house has a FEE (0 at first) and days of GRACE (0 at first)", x -> {
      // One FEE for all LOANS, and for all days: also for those of which one asked by another FEE ahead.
      Daycounthouse y = threeLoans();
      for (int fee : new int[] {25, 0, 9999}) {
        y.late(fee, 5);
        for (int loan = 0; loan < 3; loan++) {
          due(y.owes(loan, 36, 5) + " " + y.owes(loan, 37, 5) + " " + y.owes(loan, 66, 0), "0 " + fee + " " + 2 * fee);
        }
      }
      y.late(25, 6);
      due(y.owes(0, 37, 5) + " " + y.owes(1, 37, 5) + " " + y.owes(2, 38, 5), "0 0 25");
    });
    test(29, "in the ORDER of the house", x -> {
      // One ORDER for all LOANS, and for all days, also those of which one asked by another ORDER ahead.
      x.schedule(0, 366, 1, false, false, 0);
      for (int loan = 0; loan < 3; loan++) {
        x.loan(1200, 1200, 1, 4);
        x.pay(loan, 31, 50);
      }
      for (int order : new int[] {0, 4, 2, 5}) {
        x.order(order);
        String want = order < 4 ? "0 62" : "12 50";
        for (int loan = 0; loan < 3; loan++) {
          due(x.owes(loan, 31, 1) + " " + x.owes(loan, 31, 2), want);
        }
      }
    });
  }

  public static void main(String[] args) {
    loans();
    holidays();
    earlySums();
    changes();
    parts();
    likePayments();
    totals();
    rates();
    fees();
    lateAndOrder();
    payments();
    ledgers();
    moments();
    finish(21, 31, 3);
  }

  private EdgesOfLoansTest() {}
}
