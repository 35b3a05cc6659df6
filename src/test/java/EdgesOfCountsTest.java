import java.math.BigInteger;

/** The boundary cases of the promises 12 to 20 and of the part 2: MODE, SHARES, sums that grow, STEPS, the ROW. */
public final class EdgesOfCountsTest extends Edges {
  private static Daycounthouse inMode(int mode) {
    Daycounthouse x = new Daycounthouse();
    x.round(mode);
    return x;
  }

  /** What amount * rate / 10000 is in each MODE. */
  private static String modes(int amount, int rate) {
    StringBuilder text = new StringBuilder();
    for (int mode = 0; mode <= 3; mode++) {
      text.append(mode > 0 ? " " : "").append(inMode(mode).simple(amount, rate, 0, 365, 1));
    }
    return text.toString();
  }

  private static void rounding() {
    test(12, "ROUNDED by the MODE (1 at first)", x -> {
      due(x.house(6), 1);
      due(x.simple(1, 5000, 0, 365, 1), 1);
    });
    test(12, "0 down to whole coins, 1 to the nearest, a half up, 2 to the nearest, a half to the even one, 3 "
        + "up.", x -> {
      due(modes(1, 1), "0 0 0 1");
      due(modes(1, 4999), "0 0 0 1");
      due(modes(1, 5000), "0 1 0 1");
      due(modes(1, 5001), "0 1 1 1");
      due(modes(1, 9999), "0 1 1 1");
      due(modes(10000, 1), "1 1 1 1");
      due(modes(3, 5000), "1 2 2 2");
      due(modes(5, 5000), "2 3 2 3");
      due(modes(7, 5000), "3 4 4 4");
      due(modes(9, 5000), "4 5 4 5");
      due(modes(999999, 5000), "499999 500000 500000 500000");
      due(modes(999997, 5000), "499998 499999 499998 499999");
      due(modes(999999, 9999), "999899 999899 999899 999900");
    });
    test(12, "(All that is rounded is 0 or more.)", x -> {
      due(modes(0, 9999), "0 0 0 0");
      due(modes(999999, 0), "0 0 0 0");
    });
    test(12, "Tells the MODE (CHANGE).", x -> {
      change(Daycounthouse::new, 1, h -> h.round(0));
      change(Daycounthouse::new, 1, h -> h.round(1));
      x.round(3);
      due(x.simple(1, 1, 0, 1, 1), 1);
    });
    test(12, "Returns the one before.", x -> {
      due(x.round(0), 1);
      due(x.round(3), 0);
      due(x.round(2), 3);
      due(x.round(2), 2);
    });
    test(12, "Throws `IllegalArgumentException` if mode is not 0 to 3", x ->
        bounds(Daycounthouse::new, 0, 1, 3, 1, Daycounthouse::round));
  }

  private static void share(Daycounthouse x, int a, int b, int count, String want) {
    due(a + " " + b + " " + count + ": " + x.share(a, b, count), a + " " + b + " " + count + ": " + want);
  }

  private static void sharesOfDays() {
    test(13, "SHARE of a year from the DAY a to the DAY b (a not behind b; a with it, b not), by the count: 0 days / "
        + "360.", x -> {
      share(x, 0, LAST_DAY, 0, "9131/90");
      share(x, 0, 360, 0, "1/1");
      share(x, 0, 359, 0, "359/360");
      share(x, 0, 1, 0, "1/360");
      share(x, 7, 7, 0, "0/1");
    });
    test(13, "1 days / 365.", x -> {
      share(x, 0, LAST_DAY, 1, "36524/365");
      share(x, 0, 365, 1, "1/1");
      share(x, LAST_DAY - 1, LAST_DAY, 1, "1/365");
      share(x, 0, 366, 1, "366/365");
    });
    test(13, "2 days in years of 366 days / 366 and other days / 365 together.", x -> {
      share(x, 0, LAST_DAY, 2, "36499/365");
      share(x, 365, 366, 2, "1/366");
      share(x, 366, 367, 2, "1/365");
      share(x, 365, 367, 2, "731/133590");
      share(x, 0, 366, 2, "1/1");
      share(x, 1460, 1461, 2, "1/365");
      share(x, 1461, 1462, 2, "1/366");
      share(x, 366, 1461, 2, "3/1");
    });
    test(13, "5 days that are no February 29, / 365.", x -> {
      share(x, 0, LAST_DAY, 5, "36499/365");
      share(x, 59, 60, 5, "0/1");
      share(x, 58, 60, 5, "1/365");
      share(x, 59, 61, 5, "1/365");
      share(x, 58, 59, 5, "1/365");
      share(x, 0, 366, 5, "1/1");
      share(x, x.day(2001, 2, 28), x.day(2001, 3, 1), 5, "1/365");
    });
    test(13, "6 BANK DAYS / 252.", x -> {
      share(x, 0, LAST_DAY, 6, "2174/21");
      share(x, 0, 2, 6, "0/1");
      share(x, 2, 3, 6, "1/252");
      share(x, 2, 2, 6, "0/1");
      x.feast(1, 3);
      share(x, 2, 3, 6, "0/1");
    });
    test(13, "Returns SHARE.", x -> {
      for (int count = 0; count <= 7; count++) {
        share(x, 0, 0, count, "0/1");
        share(x, LAST_DAY, LAST_DAY, count, "0/1");
        share(x, 59, 59, count, "0/1");
      }
    });
    test(13, "Throws `IllegalArgumentException` if a or b is no DAY, a is behind b, or count is not 0 to 7", x -> {
      String[] whole = {"9131/90", "36524/365", "36499/365", "100/1", "35999/360", "36499/365", "2174/21", "100/1"};
      for (int count = 0; count <= 7; count++) {
        int one = count;
        days(Daycounthouse::new, whole[count], "0/1", (h, a) -> h.share(a, LAST_DAY, one));
        days(Daycounthouse::new, "0/1", whole[count], (h, b) -> h.share(0, b, one));
        argument(x, h -> h.share(1, 0, one));
      }
      bounds(Daycounthouse::new, 0, "1/360", 7, "1/360", (h, count) -> h.share(5, 6, count));
      argument(new Daycounthouse(), h -> h.share(MAX, MIN, MAX));
    });
  }

  private static void sharesOfMonths() {
    test(13, "3 (360 * years + 30 * months + days) / 360, each the number of b less that of a, but the day 31 of a is "
        + "as 30, and the day 31 of b too, if that of a is 30 or 31.", x -> {
      share(x, 0, LAST_DAY, 3, "100/1");
      share(x, 30, LAST_DAY, 3, "1199/12");
      // January 29, 30 and 31 to March 31; January 30 and 31 to January 31.
      share(x, 28, 90, 3, "31/180");
      share(x, 29, 90, 3, "1/6");
      share(x, 30, 90, 3, "1/6");
      share(x, 29, 30, 3, "0/1");
      share(x, 30, 30, 3, "0/1");
      share(x, 28, 30, 3, "1/180");
      share(x, 365, 366, 3, "1/360");
      share(x, 364, 365, 3, "0/1");
    });
    test(13, "4 as 3, but each day 31 is as 30.", x -> {
      share(x, 0, LAST_DAY, 4, "35999/360");
      share(x, 28, 90, 4, "61/360");
      share(x, 29, 90, 4, "1/6");
      share(x, 28, 30, 4, "1/360");
      share(x, 29, 30, 4, "0/1");
      share(x, 59, 90, 4, "31/360");
      share(x, 30, 59, 4, "29/360");
    });
    test(13, "7 with m as the greatest number so that a LATER by m months (ends not KEPT) is not behind b: m / 12, and "
        + "the days from that one to b / 360.", x -> {
      share(x, 0, LAST_DAY, 7, "100/1");
      share(x, 30, 58, 7, "7/90");
      share(x, 30, 59, 7, "1/12");
      share(x, 30, 60, 7, "31/360");
      share(x, 14, 44, 7, "1/12");
      share(x, 14, 45, 7, "1/12");
      share(x, 59, 90, 7, "4/45");
      // Back to March 29, not to the end of March.
      share(x, 59, 118, 7, "1/6");
      share(x, x.day(2001, 1, 31), x.day(2001, 2, 27), 7, "3/40");
      share(x, x.day(2001, 1, 31), x.day(2001, 2, 28), 7, "1/12");
      // From December 1 and December 2 on, a month more is no DAY.
      share(x, LAST_DAY - 30, LAST_DAY, 7, "1/12");
      share(x, LAST_DAY - 29, LAST_DAY, 7, "29/360");
      share(x, LAST_DAY - 61, LAST_DAY, 7, "1/6");
    });
  }

  private static void sums() {
    test(14, "Returns amount * rate / 10000 * SHARE, ROUNDED.", x -> {
      due(x.simple(999999, 9999, 0, LAST_DAY, 0), 101445309);
      due(x.simple(1, 1, 0, 0, 0), 0);
      due(inMode(3).simple(1, 1, 0, 1, 0), 1);
      due(inMode(3).simple(1, 1, 0, 0, 0), 0);
      due(inMode(0).simple(10000, 1, 0, 359, 0), 0);
      due(inMode(0).simple(10000, 1, 0, 360, 0), 1);
      for (int mode = 0; mode <= 3; mode++) {
        // 101445308.65...
        due(inMode(mode).simple(999999, 9999, 0, LAST_DAY, 0), mode == 0 ? 101445308 : 101445309);
      }
    });
    test(14, "Throws `IllegalArgumentException` if amount is not 0 to 999999, rate not 0 to 9999, a or b is no DAY, a "
        + "is behind b, or count is not 0 to 7", x -> {
      bounds(Daycounthouse::new, 0, 0, 999999, 999999, (h, amount) -> h.simple(amount, 5000, 0, 730, 1));
      bounds(Daycounthouse::new, 0, 0, 9999, 9999, (h, rate) -> h.simple(10000, rate, 0, 365, 1));
      days(Daycounthouse::new, 36524, 0, (h, a) -> h.simple(365000, 10, a, LAST_DAY, 1));
      days(Daycounthouse::new, 0, 36524, (h, b) -> h.simple(365000, 10, 0, b, 1));
      bounds(Daycounthouse::new, 0, 1, 7, 1, (h, count) -> h.simple(3600, 100, 3, 13, count));
      due(x.simple(5, 5, 9, 9, 0), 0);
      argument(x, h -> h.simple(5, 5, 9, 8, 0));
      argument(x, h -> h.simple(0, 0, LAST_DAY, 0, 0));
      argument(x, h -> h.simple(MIN, MAX, MIN, MAX, MIN));
    });
  }

  /** Spans with ends of months, leap years and FEASTS in them. */
  private static final int[][] SPANS = {{0, 1}, {0, 366}, {28, 59}, {30, 59}, {30, 60}, {30, 90}, {59, 90}, {89, 90},
      {365, 800}, {58, 1520}, {0, LAST_DAY}};

  private static Daycounthouse withFeasts(int mode) {
    Daycounthouse x = inMode(mode);
    x.feast(2, 29);
    x.moving(1);
    return x;
  }

  private static void sumsOfAllCounts() {
    test(14, "Returns amount * rate / 10000 * SHARE", x -> {
      for (int i = 0; i < 32; i++) {
        int mode = i / 8;
        int count = i % 8;
        Daycounthouse y = withFeasts(mode);
        for (int[] span : SPANS) {
          BigInteger[] share = parts(y.share(span[0], span[1], count));
          for (int[] sum : new int[][] {{999999, 9999}, {12345, 475}, {1, 1}, {7300, 5000}}) {
            BigInteger top = BigInteger.valueOf((long) sum[0] * sum[1]).multiply(share[0]);
            int want = rounded(top, share[1].multiply(BigInteger.valueOf(10000)), mode);
            due(y.simple(sum[0], sum[1], span[0], span[1], count), want);
          }
        }
      }
    });
    test(17, "Returns the sum of amount * rate / 10000 * SHARE over all spans from a to b that STEPS cut", x -> {
      for (int i = 0; i < 32; i++) {
        int mode = i / 8;
        int count = i % 8;
        Daycounthouse y = withFeasts(mode);
        int[][] steps = {{29, 475}, {59, 9999}, {60, 0}, {90, 300}, {700, 1200}, {LAST_DAY, 5}};
        for (int[] step : steps) {
          y.step(step[0], step[1]);
        }
        for (int[] span : SPANS) {
          due(y.stepped(999999, span[0], span[1], count), steppedBy(y, steps, span, count, mode));
        }
      }
    });
    test(17, "exactly, and then ROUNDED.", x -> {
      // Halves of an even and of an odd number.
      String[] halves = {"0 1 1", "1 2 1", "0 2 1", "1 2 2"};
      for (int mode = 0; mode <= 3; mode++) {
        Daycounthouse y = inMode(mode);
        y.step(0, 5000);
        due(y.stepped(1, 0, 365, 1) + " " + y.stepped(3, 0, 365, 1) + " " + y.stepped(3, 0, 364, 1), halves[mode]);
      }
    });
  }

  /** Of 999999 coins, span by span by share(), by the library's great numbers. */
  private static int steppedBy(Daycounthouse x, int[][] steps, int[] span, int count, int mode) {
    BigInteger top = BigInteger.ZERO;
    BigInteger bottom = BigInteger.ONE;
    int from = span[0];
    int rate = 0;
    for (int i = 0; i <= steps.length; i++) {
      int to = i < steps.length ? Math.min(steps[i][0], span[1]) : span[1];
      if (to > from) {
        BigInteger[] share = parts(x.share(from, to, count));
        BigInteger sum = share[0].multiply(BigInteger.valueOf(999999L * rate));
        top = top.multiply(share[1]).add(sum.multiply(bottom));
        bottom = bottom.multiply(share[1]);
        from = to;
      }
      rate = i < steps.length ? steps[i][1] : rate;
    }
    return rounded(top, bottom.multiply(BigInteger.valueOf(10000)), mode);
  }

  /** By the library's great numbers: rounded by halves up each time, or just at last. */
  private static String grown(int amount, int rate, int times, int perYear, boolean isEach) {
    BigInteger top = BigInteger.valueOf(amount);
    BigInteger bottom = BigInteger.ONE;
    BigInteger part = BigInteger.valueOf(10000L * perYear);
    for (int i = 0; i < times; i++) {
      top = top.multiply(part.add(BigInteger.valueOf(rate)));
      bottom = bottom.multiply(part);
      if (isEach) {
        top = top.shiftLeft(1).add(bottom).divide(bottom.shiftLeft(1));
        bottom = BigInteger.ONE;
      }
    }
    return top.shiftLeft(1).add(bottom).divide(bottom.shiftLeft(1)).toString();
  }

  private static void grownSums() {
    test(15, "Returns what the sum is, after it grew so many times by rate / (10000 * perYear) of what it was: ROUNDED "
        + "each time, or, exactly, just at last; as digits.", x -> {
      // 1 by 3/2: 2, 3, 5 each time, but 9/4 and 27/8 at last.
      due(x.grown(1, 5000, 2, 1, true) + " " + x.grown(1, 5000, 2, 1, false), "3 2");
      due(x.grown(1, 5000, 3, 1, true) + " " + x.grown(1, 5000, 3, 1, false), "5 3");
      due(x.grown(0, 9999, 60, 1, true) + " " + x.grown(0, 9999, 60, 1, false), "0 0");
      // Halves: 4.5, 7.5 and 1499998.5.
      String[] halves = {"4 7 1499998", "5 8 1499999", "4 8 1499998", "5 8 1499999"};
      for (int mode = 0; mode <= 3; mode++) {
        Daycounthouse y = inMode(mode);
        for (boolean isEach : new boolean[] {false, true}) {
          String got = y.grown(3, 5000, 1, 1, isEach) + " " + y.grown(5, 5000, 1, 1, isEach);
          due(got + " " + y.grown(999999, 5000, 1, 1, isEach), halves[mode]);
        }
      }
      due(x.grown(999999, 0, 60, 1, true) + " " + x.grown(999999, 0, 60, 1, false), "999999 999999");
      due(inMode(3).grown(999999, 9999, 0, 365, false), "999999");
      due(inMode(3).grown(1, 1, 1, 365, false) + " " + inMode(0).grown(1, 9999, 1, 1, false), "2 1");
      due(inMode(3).grown(1, 1, 60, 365, true) + " " + inMode(3).grown(1, 1, 60, 365, false), "61 2");
    });
    test(15, "exactly, just at last; as digits.", x -> {
      for (boolean isEach : new boolean[] {false, true}) {
        for (int perYear : new int[] {1, 2, 364, 365}) {
          String want = grown(999999, 9999, 60, perYear, isEach);
          due(x.grown(999999, 9999, 60, perYear, isEach), want);
        }
      }
      due(x.grown(999999, 9999, 60, 1, false).length(), 25);
    });
    test(15, "Throws `IllegalArgumentException` if amount is not 0 to 999999, rate not 0 to 9999, times not 0 to 60, "
        + "or perYear not 1 to 365", x -> {
      for (boolean isEach : new boolean[] {false, true}) {
        bounds(Daycounthouse::new, 0, "0", 999999, "999999", (h, amount) -> h.grown(amount, 0, 60, 1, isEach));
        bounds(Daycounthouse::new, 0, "10000", 9999, "19999", (h, rate) -> h.grown(10000, rate, 1, 1, isEach));
        bounds(Daycounthouse::new, 0, "5", 60, "5", (h, times) -> h.grown(5, 0, times, 1, isEach));
        bounds(Daycounthouse::new, 1, "19999", 365, "10027", (h, perYear) -> h.grown(10000, 9999, 1, perYear, isEach));
      }
      argument(x, h -> h.grown(MAX, MAX, MAX, MIN, true));
      argument(x, h -> h.grown(0, 0, 0, 0, false));
    });
  }

  /** Eight STEPS, on the days 0, 10, ... 70. */
  private static Daycounthouse eightSteps() {
    Daycounthouse x = new Daycounthouse();
    for (int i = 0; i < 8; i++) {
      x.step(10 * i, 100 + i);
    }
    return x;
  }

  private static void steps() {
    test(16, "STEPS, at most 8", x -> {
      for (int many = 1; many <= 8; many++) {
        due(x.step(LAST_DAY - many, many), NONE);
        due(x.house(1), many);
      }
      state(x, h -> h.step(LAST_DAY, 9));
      state(x, h -> h.step(0, 0));
    });
    test(16, "days, from each of which on a told rate holds, till the next one; ahead of the first one 0.", x -> {
      x.step(20, 200);
      x.step(10, 100);
      // 360000 by the rate 100 brings 10 coins a day.
      due(x.stepped(360000, 0, 10, 0), 0);
      due(x.stepped(360000, 9, 10, 0) + " " + x.stepped(360000, 10, 11, 0), "0 10");
      due(x.stepped(360000, 19, 20, 0) + " " + x.stepped(360000, 20, 21, 0), "10 20");
      due(x.stepped(360000, 9, 21, 0), 120);
      due(x.stepped(360000, LAST_DAY - 1, LAST_DAY, 0), 20);
    });
    test(16, "Tells a STEP, instead of one on that day; or takes it away (CHANGE).", x -> {
      x.step(10, 100);
      due(x.step(10, 300), 100);
      due(x.house(1) + " " + x.stepped(360000, 10, 11, 0), "1 30");
      due(x.step(10, NONE), 300);
      due(x.house(1) + " " + x.stepped(360000, 10, 11, 0), "0 0");
      Daycounthouse y = eightSteps();
      y.step(70, NONE);
      y.step(5, 300);
      due(y.stepped(360000, 70, 80, 0) + " " + y.stepped(360000, 5, 6, 0), "106 30");
      y.undo();
      y.undo();
      due(y.stepped(360000, 70, 80, 0) + " " + y.stepped(360000, 0, 10, 0), "107 100");
      change(EdgesOfCountsTest::eightSteps, 105, h -> h.step(50, 105));
      change(EdgesOfCountsTest::eightSteps, 105, h -> h.step(50, 9999));
      change(EdgesOfCountsTest::eightSteps, 105, h -> h.step(50, NONE));
      change(EdgesOfCountsTest::eightSteps, NONE, h -> h.step(5, NONE));
      change(Daycounthouse::new, NONE, h -> h.step(5, NONE));
      change(Daycounthouse::new, NONE, h -> h.step(0, 0));
    });
    test(16, "Returns the rate that was told on that day, or NONE.", x -> {
      due(x.step(0, 0), NONE);
      due(x.step(0, 1), 0);
      due(x.step(0, NONE), 1);
      due(x.step(0, NONE), NONE);
      x.step(10, 100);
      due(x.step(11, NONE), NONE);
    });
    test(16, "Throws `IllegalArgumentException` if day is no DAY, or rate is not NONE to 9999", x -> {
      days(Daycounthouse::new, NONE, NONE, (h, day) -> h.step(day, 5));
      days(Daycounthouse::new, NONE, NONE, (h, day) -> h.step(day, NONE));
      bounds(Daycounthouse::new, NONE, NONE, 9999, NONE, (h, rate) -> h.step(5, rate));
      bounds(EdgesOfCountsTest::eightSteps, NONE, 100, 9999, 100, (h, rate) -> h.step(0, rate));
      // With 8 told, a day that is none and a rate that is none go ahead of the STEP too much.
      bounds(EdgesOfCountsTest::eightSteps, NONE, NONE, 9999, STATE, (h, rate) -> h.step(5, rate));
      bounds(EdgesOfCountsTest::eightSteps, 0, 100, LAST_DAY, STATE, (h, day) -> h.step(day, 5));
    });
    test(16, "Throws `IllegalStateException` if there are 8, none of them on that day, and rate is not NONE", x -> {
      nothing(EdgesOfCountsTest::eightSteps, STATE, h -> h.step(5, 0));
      nothing(EdgesOfCountsTest::eightSteps, STATE, h -> h.step(LAST_DAY, 9999));
      Daycounthouse y = eightSteps();
      for (int i = 0; i < 8; i++) {
        due(y.step(10 * i, 5), 100 + i);
      }
      due(y.step(5, NONE), NONE);
      due(y.step(70, NONE), 5);
      due(y.step(5, 6), NONE);
      due(y.house(1), 8);
      state(y, h -> h.step(70, 5));
    });
  }

  private static void steppedSums() {
    test(17, "Returns the sum of amount * rate / 10000 * SHARE over all spans from a to b that STEPS cut, exactly, and "
        + "then ROUNDED.", x -> {
      due(x.stepped(999999, 0, LAST_DAY, 0), 0);
      // Two halves of a coin are one, also where each alone would be none or two.
      for (int mode = 0; mode <= 3; mode++) {
        Daycounthouse y = inMode(mode);
        y.step(0, 5000);
        y.step(365, 2500);
        due(y.stepped(1, 0, 365 + 730, 1), 1);
      }
      due(inMode(3).stepped(999999, 5, 5, 0), 0);
    });
    test(17, "over all spans from a to b that STEPS cut", x -> {
      // By 30/360 February 29 to March 31 has 32 days; a STEP of the like rate on March 30 cuts it into 31 and none.
      x.step(0, 100);
      due(x.stepped(360000, 59, 90, 3), 320);
      x.step(89, 100);
      due(x.stepped(360000, 59, 90, 3), 310);
      // STEPS on a itself, on b and behind it cut nothing.
      x.step(89, NONE);
      x.step(59, 100);
      x.step(90, 100);
      x.step(91, 100);
      due(x.stepped(360000, 59, 90, 3), 320);
      x.step(91, 9999);
      x.step(90, 9999);
      due(x.stepped(360000, 59, 90, 3), 320);
      due(x.stepped(360000, 90, 90, 3), 0);
    });
    test(17, "exactly, and then ROUNDED.", x -> {
      x.step(0, 9999);
      due(x.stepped(999999, 0, LAST_DAY, 0), 101445309);
      for (int i = 1; i < 8; i++) {
        x.step(i * 4000, 9999);
      }
      due(x.stepped(999999, 0, LAST_DAY, 0), 101445309);
      due(x.stepped(999999, 0, LAST_DAY, 2), 99987161);
      x.round(0);
      due(x.stepped(999999, 0, LAST_DAY, 0), 101445308);
    });
    test(17, "Throws `IllegalArgumentException` if amount is not 0 to 999999, a or b is no DAY, a is behind b, or "
        + "count is not 0 to 7", x -> {
      bounds(EdgesOfCountsTest::fullRate, 0, 0, 999999, 999899, (h, amount) -> h.stepped(amount, 0, 365, 1));
      days(EdgesOfCountsTest::fullRate, 3652035, 0, (h, a) -> h.stepped(36500, a, LAST_DAY, 1));
      days(EdgesOfCountsTest::fullRate, 0, 3652035, (h, b) -> h.stepped(36500, 0, b, 1));
      bounds(EdgesOfCountsTest::fullRate, 0, 0, 7, 0, (h, count) -> h.stepped(100, 3, 3, count));
      bounds(Daycounthouse::new, 0, 0, 7, 0, (h, count) -> h.stepped(999999, 3, 300, count));
      due(x.stepped(5, 9, 9, 0), 0);
      argument(x, h -> h.stepped(5, 9, 8, 0));
      argument(x, h -> h.stepped(MAX, MIN, MAX, MIN));
    });
  }

  private static Daycounthouse fullRate() {
    Daycounthouse x = new Daycounthouse();
    x.step(0, 9999);
    return x;
  }

  /** A ROW of two PERIODS, 9 to 40 and 40 to 69. */
  private static Daycounthouse twoMonths() {
    Daycounthouse x = new Daycounthouse();
    x.schedule(9, 69, 1, false, false, 0);
    return x;
  }

  private static String row(Daycounthouse x, int from, int to, int months, boolean isFirst, boolean isKept, int how) {
    int periods = x.schedule(from, to, months, isFirst, isKept, how);
    return periods + ": " + x.row();
  }

  private static void rows() {
    test(18, "ROW: rising DAYS, at least two", x -> {
      due(row(x, 0, 1, 24, false, false, 0), "1: 0 1");
      due(row(x, LAST_DAY - 1, LAST_DAY, 1, true, true, 0), "1: " + (LAST_DAY - 1) + " " + LAST_DAY);
      due(row(x, 0, LAST_DAY, 24, false, false, 0), "-9: " + (LAST_DAY - 1) + " " + LAST_DAY);
    });
    test(18, "Makes the ROW (CHANGE, if it is done)", x -> {
      change(Daycounthouse::new, 12, h -> h.schedule(0, 366, 1, false, false, 0));
      change(EdgesOfCountsTest::twoMonths, 2, h -> h.schedule(9, 69, 1, false, false, 0));
      due(x.house(10), 0);
    });
    test(18, "from the first day on, k times so many months LATER, as long as that is ahead of the last day, and the "
        + "last day", x -> {
      due(row(x, 0, 30, 1, false, false, 0), "1: 0 30");
      due(row(x, 0, 31, 1, false, false, 0), "1: 0 31");
      due(row(x, 0, 32, 1, false, false, 0), "2: 0 31 32");
      // Each from the first day on, not from the one ahead: from January 31 to February 29, March 31, April 30.
      due(row(x, 30, 120, 1, false, false, 0), "3: 30 59 90 120");
      due(row(x, 59, 150, 1, false, false, 0), "4: 59 88 119 149 150");
      due(row(x, 59, 151, 1, false, true, 0), "3: 59 90 120 151");
      // Behind December 2, 2099, one month LATER is no DAY.
      due(row(x, LAST_DAY - 29, LAST_DAY, 1, false, false, 0), "1: " + (LAST_DAY - 29) + " " + LAST_DAY);
    });
    test(18, "or, if the short PERIOD is to be the first one, from the last day back likewise", x -> {
      due(row(x, 1, 31, 1, true, false, 0), "1: 1 31");
      due(row(x, 0, 31, 1, true, false, 0), "1: 0 31");
      due(row(x, 0, 32, 1, true, false, 0), "2: 0 1 32");
      due(row(x, 30, 90, 1, true, false, 0), "2: 30 59 90");
      // Each from the last day back, not from the one ahead: from March 31 to February 29, January 31.
      due(row(x, 0, 90, 1, true, false, 0), "3: 0 30 59 90");
      due(row(x, 0, 90, 2, true, false, 0) + ", " + row(x, 0, 60, 2, true, false, 0), "2: 0 30 90, 1: 0 60");
      due(row(x, 0, 90, 1, false, false, 0), "3: 0 31 60 90");
      due(row(x, 29, 120, 1, true, true, 0), "4: 29 30 59 90 120");
      due(row(x, 29, 120, 1, true, false, 0), "3: 29 59 89 120");
      // A month ahead of January 20, 2000, is no DAY.
      due(row(x, 0, 19, 1, true, false, 0), "1: 0 19");
    });
    test(18, "each ROLLED; of like ones just one is kept.", x -> {
      due(row(x, 0, 366, 6, false, false, 1), "2: 2 184 366");
      // January 1 and 2, 2000, ROLL to January 3.
      due(row(x, 0, 31, 1, false, false, 1), "1: 2 31");
      due(row(x, 1, 33, 1, false, false, 1), "2: 2 32 33");
      // July 1, 2000, is a Saturday: it and July 2 and 3 are one.
      due(row(x, 152, 184, 1, false, false, 1), "1: 152 184");
      due(row(x, 181, 213, 1, true, false, 2), "1: 181 213");
      // A FEAST that is told later leaves the ROW as it was made.
      Daycounthouse y = twoMonths();
      y.schedule(9, 69, 1, false, false, 1);
      due(y.row(), "9 40 69");
      y.feast(2, 10);
      due(y.isBank(40) + " " + y.row() + " " + y.period(40), "false 9 40 69 2");
      due(y.schedule(9, 69, 1, false, false, 1) + " " + y.row(), "2 9 41 69");
    });
    test(20, "PERIOD k is from the one number k - 1 (with it) to the one number k (without it).", x -> {
      Daycounthouse y = twoMonths();
      due(y.row(), "9 40 69");
      int[] dues = {NONE, 1, 1, 2, 2, NONE, NONE, NONE};
      int[] days = {8, 9, 39, 40, 68, 69, 0, LAST_DAY};
      for (int i = 0; i < days.length; i++) {
        due(y.period(days[i]), dues[i]);
      }
    });
    test(18, "It has so many MONTHS to a PERIOD, as it was told.", x -> {
      // One short PERIOD of a day: the coupon sum is that of the MONTHS that were told.
      for (int months : new int[] {1, 12, 24}) {
        x.schedule(0, 1, months, false, false, 0);
        x.bond(1200, 1000);
      }
      due(x.flow(0, 1, 1) + " " + x.flow(1, 1, 1) + " " + x.flow(2, 1, 1), "10 120 240");
    });
  }

  private static void refusals() {
    test(18, "Returns how many PERIODS there are; -9, if there are not 1 to 24, or a ROLL is NONE.", x -> {
      due(x.schedule(0, 731, 1, false, false, 0), 24);
      due(x.house(2), 24);
      due(x.schedule(0, 1, 1, false, false, 0), 1);
    });
    test(18, "-9, if there are not 1 to 24", x -> {
      // 25 PERIODS, from both ends; 366 and 1200.
      refused(EdgesOfCountsTest::twoMonths, h -> h.schedule(0, 732, 1, false, false, 0));
      refused(EdgesOfCountsTest::twoMonths, h -> h.schedule(0, 732, 1, true, false, 0));
      refused(Daycounthouse::new, h -> h.schedule(0, LAST_DAY, 1, false, false, 0));
      refused(Daycounthouse::new, h -> h.schedule(0, LAST_DAY, 24, true, true, 3));
      // None: both days ROLL to the same one.
      refused(EdgesOfCountsTest::twoMonths, h -> h.schedule(0, 1, 1, false, false, 1));
      refused(EdgesOfCountsTest::twoMonths, h -> h.schedule(0, 2, 1, true, false, 1));
      refused(Daycounthouse::new, h -> h.schedule(7, 8, 24, false, false, 2));
      due(x.row(), "-");
    });
    test(18, "of like ones just one is kept.", x -> {
      // 26 days of which two are like: January 1, 2002, a FEAST, ROLLS to January 2.
      due(x.schedule(0, 732, 1, false, false, 1), REFUSED);
      x.feast(1, 1);
      due(x.schedule(0, 732, 1, false, false, 1), 24);
      due(x.schedule(0, 732, 1, true, false, 1), 24);
      due(x.schedule(0, 733, 1, false, false, 1), REFUSED);
    });
    test(18, "or a ROLL is NONE.", x -> {
      refused(EdgesOfCountsTest::twoMonths, h -> h.schedule(0, 40, 1, false, false, 2));
      refused(EdgesOfCountsTest::twoMonths, h -> h.schedule(1, 40, 1, true, false, 2));
      due(x.schedule(2, 40, 1, false, false, 2), 2);
      refused(EdgesOfCountsTest::lastIsFeast, h -> h.schedule(LAST_DAY - 40, LAST_DAY, 1, false, false, 1));
      refused(EdgesOfCountsTest::lastIsFeast, h -> h.schedule(LAST_DAY - 40, LAST_DAY, 1, true, false, 1));
      due(lastIsFeast().schedule(LAST_DAY - 40, LAST_DAY, 1, true, false, 3), 2);
      due(lastIsFeast().schedule(LAST_DAY - 40, LAST_DAY - 1, 1, true, false, 1), 2);
    });
    test(18, "Throws `IllegalArgumentException` if from or to is no DAY, from is not ahead of to, months is not 1 to "
        + "24, or how is not 0 to 4", x -> {
      bounds(Daycounthouse::new, 0, REFUSED, LAST_DAY - 1, 1, (h, from) ->
          h.schedule(from, LAST_DAY, 1, true, true, 0));
      bounds(Daycounthouse::new, 1, 1, LAST_DAY, REFUSED, (h, to) -> h.schedule(0, to, 1, false, false, 0));
      bounds(EdgesOfCountsTest::twoMonths, 1, 24, 24, 1, (h, many) -> h.schedule(0, 731, many, false, false, 0));
      bounds(EdgesOfCountsTest::twoMonths, 0, 24, 4, 24, (h, how) -> h.schedule(0, 731, 1, false, false, how));
      for (int day : new int[] {0, 5, LAST_DAY}) {
        argument(x, h -> h.schedule(day, day, 1, false, false, 0));
      }
      argument(x, h -> h.schedule(6, 5, 1, false, false, 0));
      argument(x, h -> h.schedule(MAX, MIN, MAX, true, true, MIN));
    });
  }

  private static Daycounthouse lastIsFeast() {
    Daycounthouse x = new Daycounthouse();
    x.feast(12, 31);
    return x;
  }

  private static void periods() {
    test(19, "Returns the DAYS of the ROW, with \" \" between; \"-\" without one.", x -> {
      due(x.row(), "-");
      x.schedule(0, LAST_DAY, 1, false, false, 0);
      due(x.row(), "-");
      x.schedule(0, 1, 1, false, false, 0);
      due(x.row(), "0 1");
      x.schedule(0, 731, 1, false, false, 0);
      due(x.row(), "0 31 60 91 121 152 182 213 244 274 305 335 366 397 425 456 486 517 547 578 609 639 670 700 731");
      x.undo();
      x.undo();
      due(x.row(), "-");
    });
    test(20, "Returns the PERIOD of the ROW in which it is; NONE without.", x -> {
      due(x.period(0) + " " + x.period(LAST_DAY), "-1 -1");
      x.schedule(0, 731, 1, false, false, 0);
      due(x.period(0) + " " + x.period(30) + " " + x.period(700) + " " + x.period(730), "1 1 24 24");
      due(x.period(731), NONE);
      x.schedule(LAST_DAY - 1, LAST_DAY, 1, false, false, 0);
      due(x.period(LAST_DAY - 2) + " " + x.period(LAST_DAY - 1) + " " + x.period(LAST_DAY), "-1 1 -1");
    });
    test(20, "Throws `IllegalArgumentException` if day is no DAY", x -> {
      days(Daycounthouse::new, NONE, NONE, Daycounthouse::period);
      days(EdgesOfCountsTest::twoMonths, NONE, NONE, Daycounthouse::period);
    });
  }

  public static void main(String[] args) {
    rounding();
    sharesOfDays();
    sharesOfMonths();
    sums();
    sumsOfAllCounts();
    grownSums();
    steps();
    steppedSums();
    rows();
    refusals();
    periods();
    finish(12, 20, 2);
  }

  private EdgesOfCountsTest() {}
}
