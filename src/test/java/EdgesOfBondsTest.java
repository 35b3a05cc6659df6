import java.math.BigInteger;
import java.util.function.Supplier;

/** The boundary cases of the promises 32 to 43 and of the part 4: BONDS, their FLOWS, prices and yields. */
public final class EdgesOfBondsTest extends Edges {
  private static final BigInteger MILLION = BigInteger.valueOf(1000000);

  /** Four half years: the days 0, 182, 366, 547 and 731. */
  private static Daycounthouse halfYears() {
    Daycounthouse x = new Daycounthouse();
    x.schedule(0, 731, 6, false, false, 0);
    return x;
  }

  /** A coupon sum of 25 in each half year. */
  private static Daycounthouse par() {
    Daycounthouse x = halfYears();
    x.bond(1000, 500);
    return x;
  }

  private static Daycounthouse threeBonds() {
    Daycounthouse x = halfYears();
    x.bond(1000, 500);
    x.bond(1000, 0);
    x.bond(1000, 500);
    return x;
  }

  /** One PERIOD from day 0 to the told one. */
  private static Daycounthouse single(int end, int face, int coupon) {
    Daycounthouse x = new Daycounthouse();
    x.schedule(0, end, 12, false, false, 0);
    x.bond(face, coupon);
    return x;
  }

  /** 24 PERIODS of a month. */
  private static Daycounthouse months() {
    Daycounthouse x = new Daycounthouse();
    x.schedule(0, 731, 1, false, false, 0);
    x.bond(1200, 1000);
    return x;
  }

  /** 24 PERIODS of 24 months, with all that makes a FLOW great. */
  private static Daycounthouse greatest() {
    Daycounthouse x = new Daycounthouse();
    x.schedule(0, 17532, 24, false, false, 0);
    x.bond(999999, 9999);
    x.link(0, 1, 999);
    return x;
  }

  private static Supplier<Daycounthouse> withOtherRow(Supplier<Daycounthouse> maker) {
    return () -> {
      Daycounthouse x = maker.get();
      x.schedule(5, 6, 1, false, false, 0);
      return x;
    };
  }

  private static String line(Daycounthouse x, int what) {
    StringBuilder text = new StringBuilder();
    for (int k = 1; k <= 4; k++) {
      text.append(k > 1 ? " " : "").append(x.flow(0, k, what));
    }
    return text.toString();
  }

  private static void bonds() {
    test(32, "BONDS, at most 3, each with a FACE, a coupon, and the ROW of the moment, with n PERIODS.", x -> {
      x.schedule(0, 1, 1, false, false, 0);
      due(x.bond(1, 0), 0);
      x.schedule(0, 731, 1, false, false, 0);
      due(x.bond(999999, 9999), 1);
      x.schedule(LAST_DAY - 1, LAST_DAY, 24, false, false, 0);
      due(x.bond(1, 9999), 2);
      state(x, h -> h.bond(1, 0));
      due(x.house(4), 3);
      due(x.flow(0, 1, 0) + " " + x.flow(1, 24, 0) + " " + x.flow(2, 1, 0), "1 731 " + LAST_DAY);
      index(x, h -> h.flow(0, 2, 0));
    });
    test(32, "A BOND (CHANGE).", x -> {
      change(EdgesOfBondsTest::halfYears, 0, h -> h.bond(1, 0));
      change(EdgesOfBondsTest::par, 1, h -> h.bond(999999, 9999));
    });
    test(32, "Returns its number.", x -> {
      Daycounthouse y = threeBonds();
      y.undo();
      due(y.bond(5, 5), 2);
    });
    test(32, "each with a FACE, a coupon", x -> {
      // Nothing of a BOND that was taken back is left in the next one.
      Daycounthouse y = par();
      y.sink(0, 1, 300);
      y.sink(0, 4, 7);
      y.call(0, 3, 50);
      y.reset(0, 4, 0);
      y.link(0, 4, 999);
      y.ex(0, 60);
      while (y.house(4) > 0) {
        y.undo();
      }
      due(y.bond(1000, 500), 0);
      due(y.digest(), par().digest());
      due(y.sink(0, 1, 0) + " " + y.sink(0, 4, 0) + " " + y.call(0, 3, NONE) + " " + y.reset(0, 4, NONE), "0 0 -1 -1");
      due(y.link(0, 4, NONE) + " " + y.ex(0, 0), "-1 0");
    });
    test(32, "Throws `IllegalArgumentException` if face is not 1 to 999999, or coupon not 0 to 9999", x -> {
      bounds(EdgesOfBondsTest::halfYears, 1, 0, 999999, 0, (h, face) -> h.bond(face, 0));
      bounds(EdgesOfBondsTest::halfYears, 0, 0, 9999, 0, (h, coupon) -> h.bond(1, coupon));
      bounds(Daycounthouse::new, 1, STATE, 999999, STATE, (h, face) -> h.bond(face, 0));
      bounds(EdgesOfBondsTest::threeBonds, 0, STATE, 9999, STATE, (h, coupon) -> h.bond(1, coupon));
      argument(x, h -> h.bond(MAX, MIN));
    });
    test(32, "Throws `IllegalStateException` if there is no ROW, or there are 3", x -> {
      nothing(Daycounthouse::new, STATE, h -> h.bond(1, 0));
      nothing(EdgesOfBondsTest::threeBonds, STATE, h -> h.bond(1, 0));
      x.schedule(0, 1, 1, false, false, 0);
      x.undo();
      state(x, h -> h.bond(1, 0));
    });
  }

  private static void sinks() {
    test(33, "back: what is SUNK in that PERIOD, but at most REST, in the last one REST; then REST is less by "
        + "that", x -> {
      Daycounthouse y = par();
      y.sink(0, 2, 999);
      due(line(y, 2) + ", " + line(y, 4), "0 999 0 1, 1000 1 1 0");
      y.sink(0, 2, 1000);
      due(line(y, 2) + ", " + line(y, 4), "0 1000 0 0, 1000 0 0 0");
      y.sink(0, 2, 1001);
      y.sink(0, 3, 999999);
      due(line(y, 2) + ", " + line(y, 1), "0 1000 0 0, 25 25 0 0");
      y.sink(0, 2, 0);
      y.sink(0, 3, 0);
      y.sink(0, 4, 1);
      due(line(y, 2), "0 0 0 1000");
      due(single(1, 1, 0).flow(0, 1, 2) + " " + single(1, 999999, 0).flow(0, 1, 2), "1 999999");
    });
    test(33, "Tells what is SUNK in a PERIOD (CHANGE).", x -> {
      change(EdgesOfBondsTest::par, 0, h -> h.sink(0, 1, 999999));
      change(EdgesOfBondsTest::par, 0, h -> h.sink(0, 4, 0));
    });
    test(33, "Returns how much before (0 without).", x -> {
      Daycounthouse y = par();
      due(y.sink(0, 1, 999999) + " " + y.sink(0, 1, 0) + " " + y.sink(0, 1, 0), "0 999999 0");
    });
    test(33, "Throws `IndexOutOfBoundsException` if there is no such BOND or PERIOD", x -> {
      noNumber(EdgesOfBondsTest::halfYears, (h, bond) -> h.sink(bond, 1, 5));
      numbers(EdgesOfBondsTest::threeBonds, 0, 0, 2, 0, (h, bond) -> h.sink(bond, 1, 5));
      numbers(EdgesOfBondsTest::par, 1, 0, 4, 0, (h, k) -> h.sink(0, k, 5));
      numbers(withOtherRow(EdgesOfBondsTest::par), 1, 0, 4, 0, (h, k) -> h.sink(0, k, 5));
      numbers(EdgesOfBondsTest::months, 1, 0, 24, 0, (h, k) -> h.sink(0, k, 5));
      numbers(EdgesOfBondsTest::par, 1, ARGUMENT, 4, ARGUMENT, (h, k) -> h.sink(0, k, -1));
      index(par(), h -> h.sink(1, 1, MIN));
    });
    test(33, "Throws `IllegalArgumentException` if sum is not 0 to 999999", x ->
        bounds(EdgesOfBondsTest::par, 0, 0, 999999, 0, (h, sum) -> h.sink(0, 1, sum)));
  }

  private static void calls() {
    test(34, "A CALL of a PERIOD k (1 to n - 1), with a percent: the bond may end at the end of k: then the REST "
        + "behind it, times percent / 100 * INDEX of k / 100, ROUNDED, comes to the FLOW of k, and nothing "
        + "later.", x -> {
      Daycounthouse y = par();
      y.call(0, 1, 50);
      due(y.worst(0, 0, 525) + " " + y.worst(0, 0, 526), "0 -1");
      y.call(0, 1, 200);
      due(y.worst(0, 0, 1100) + " " + y.worst(0, 0, 1101), "0 -1");
      y.call(0, 1, NONE);
      y.call(0, 3, 50);
      due(y.worst(0, 0, 575) + " " + y.worst(0, 0, 576), "0 -1");
      // 400 sunk, then 600 by an INDEX of 150: a coupon sum of 22.5, and 600 * 102 / 100 * 150 / 100.
      y.call(0, 3, NONE);
      y.sink(0, 1, 400);
      y.link(0, 2, 150);
      y.call(0, 2, 102);
      due(y.worst(0, 0, 1366) + " " + y.worst(0, 0, 1367), "0 -1");
      // INDEX of k, not that of later ones.
      y.link(0, 3, 999);
      due(y.worst(0, 0, 1366) + " " + y.worst(0, 0, 1367), "0 -1");
      // Nothing is left for the CALL.
      y.sink(0, 1, 1000);
      due(y.worst(0, 0, 1025) + " " + y.worst(0, 0, 1026), "0 -1");
    });
    test(34, "times percent / 100 * INDEX of k / 100, ROUNDED", x -> {
      // A coin by 50 percent is a half: 0, 1, 0 or 1 coin besides.
      int[] dues = {0, 1, 0, 1};
      for (int mode = 0; mode <= 3; mode++) {
        Daycounthouse y = new Daycounthouse();
        y.schedule(0, 731, 12, false, false, 0);
        y.bond(3, 0);
        y.sink(0, 1, 2);
        y.call(0, 1, 50);
        y.round(mode);
        due(y.worst(0, 0, 2 + dues[mode]) + " " + y.worst(0, 0, 3 + dues[mode]), "0 -1");
      }
      // A coin and a half is SUNK, and as much comes by the CALL: each is ROUNDED alone, to 1 or 2 coins.
      int[] both = {2, 4, 4, 4};
      for (int mode = 0; mode <= 3; mode++) {
        Daycounthouse y = new Daycounthouse();
        y.schedule(0, 731, 12, false, false, 0);
        y.bond(2, 0);
        y.link(0, 1, 150);
        y.sink(0, 1, 1);
        y.call(0, 1, 100);
        y.reset(0, 2, 9999);
        y.round(mode);
        due(y.worst(0, 0, both[mode]) + " " + y.worst(0, 0, both[mode] + 1), "0 -1");
      }
    });
    test(34, "Tells a CALL, or takes it away (CHANGE).", x -> {
      change(EdgesOfBondsTest::par, NONE, h -> h.call(0, 1, 50));
      change(EdgesOfBondsTest::par, NONE, h -> h.call(0, 3, NONE));
    });
    test(34, "Returns the percent before, or NONE.", x -> {
      Daycounthouse y = par();
      due(y.call(0, 3, 200) + " " + y.call(0, 3, 50) + " " + y.call(0, 3, NONE), "-1 200 50");
      due(y.call(0, 3, NONE), NONE);
    });
    test(34, "Throws `IndexOutOfBoundsException` if there is no such BOND, or k is not 1 to n - 1", x -> {
      noNumber(EdgesOfBondsTest::halfYears, (h, bond) -> h.call(bond, 1, 100));
      noNumber(() -> single(1, 5, 5), (h, k) -> h.call(0, k, 100));
      numbers(EdgesOfBondsTest::threeBonds, 0, NONE, 2, NONE, (h, bond) -> h.call(bond, 1, 100));
      numbers(EdgesOfBondsTest::par, 1, NONE, 3, NONE, (h, k) -> h.call(0, k, 100));
      numbers(withOtherRow(EdgesOfBondsTest::par), 1, NONE, 3, NONE, (h, k) -> h.call(0, k, 100));
      numbers(EdgesOfBondsTest::months, 1, NONE, 23, NONE, (h, k) -> h.call(0, k, 100));
      numbers(EdgesOfBondsTest::par, 1, ARGUMENT, 3, ARGUMENT, (h, k) -> h.call(0, k, 0));
      index(par(), h -> h.call(1, 1, MAX));
    });
    test(34, "Throws `IllegalArgumentException` if percent is not NONE, and not 50 to 200", x -> {
      due(par().call(0, 1, NONE) + " " + par().call(0, 1, 50) + " " + par().call(0, 1, 200), "-1 -1 -1");
      for (int percent : new int[] {-2, 0, 1, 49, 201, MIN, MAX, MIN + 1, MAX - 1}) {
        argument(par(), h -> h.call(0, 1, percent));
      }
    });
  }

  private static void resets() {
    test(35, "The coupon is that told for the last PERIOD up to this one (RESET)", x -> {
      Daycounthouse y = par();
      y.reset(0, 4, 0);
      y.reset(0, 2, 9999);
      due(line(y, 1), "25 500 500 0");
      y.reset(0, 1, 0);
      due(line(y, 1), "0 500 500 0");
      y.reset(0, 2, NONE);
      y.reset(0, 4, NONE);
      due(line(y, 1), "0 0 0 0");
    });
    test(35, "RESETS the coupon from a PERIOD on, or takes that back (CHANGE).", x -> {
      change(EdgesOfBondsTest::par, NONE, h -> h.reset(0, 1, 0));
      change(EdgesOfBondsTest::par, NONE, h -> h.reset(0, 4, NONE));
    });
    test(35, "Returns the coupon told there before, or NONE.", x -> {
      Daycounthouse y = par();
      due(y.reset(0, 4, 0) + " " + y.reset(0, 4, 9999) + " " + y.reset(0, 4, NONE), "-1 0 9999");
      due(y.reset(0, 4, 1), NONE);
    });
    test(35, "Throws `IndexOutOfBoundsException` if there is no such BOND or PERIOD", x -> {
      noNumber(EdgesOfBondsTest::halfYears, (h, bond) -> h.reset(bond, 1, 5));
      numbers(EdgesOfBondsTest::threeBonds, 0, NONE, 2, NONE, (h, bond) -> h.reset(bond, 1, 5));
      numbers(EdgesOfBondsTest::par, 1, NONE, 4, NONE, (h, k) -> h.reset(0, k, 5));
      numbers(withOtherRow(EdgesOfBondsTest::par), 1, NONE, 4, NONE, (h, k) -> h.reset(0, k, 5));
      numbers(EdgesOfBondsTest::months, 1, NONE, 24, NONE, (h, k) -> h.reset(0, k, 5));
      numbers(EdgesOfBondsTest::par, 1, ARGUMENT, 4, ARGUMENT, (h, k) -> h.reset(0, k, -2));
    });
    test(35, "Throws `IllegalArgumentException` if coupon is not NONE to 9999", x ->
        bounds(EdgesOfBondsTest::par, NONE, NONE, 9999, NONE, (h, coupon) -> h.reset(0, 1, coupon)));
  }

  private static void links() {
    test(36, "INDEX likewise (LINK; 100 at first).", x -> {
      Daycounthouse y = par();
      due(line(y, 3), "25 25 25 1025");
      y.link(0, 1, 100);
      due(line(y, 3), "25 25 25 1025");
      y.link(0, 4, 999);
      y.link(0, 2, 1);
      // 0.25 of a coin is none; 25 * 9.99 is 249.75, and 1000 * 9.99.
      due(line(y, 3), "25 0 0 10240");
      y.link(0, 4, NONE);
      due(line(y, 3), "25 0 0 10");
      y.link(0, 1, 999);
      due(line(y, 3), "250 0 0 10");
    });
    test(36, "LINKS an INDEX from a PERIOD on, or takes that back (CHANGE).", x -> {
      change(EdgesOfBondsTest::par, NONE, h -> h.link(0, 1, 1));
      change(EdgesOfBondsTest::par, NONE, h -> h.link(0, 4, 100));
      change(EdgesOfBondsTest::par, NONE, h -> h.link(0, 4, NONE));
    });
    test(36, "Returns the INDEX told there before, or NONE.", x -> {
      Daycounthouse y = par();
      due(y.link(0, 4, 1) + " " + y.link(0, 4, 999) + " " + y.link(0, 4, NONE) + " " + y.link(0, 4, 1), "-1 1 999 -1");
    });
    test(36, "Throws `IndexOutOfBoundsException` if there is no such BOND or PERIOD", x -> {
      noNumber(EdgesOfBondsTest::halfYears, (h, bond) -> h.link(bond, 1, 5));
      numbers(EdgesOfBondsTest::threeBonds, 0, NONE, 2, NONE, (h, bond) -> h.link(bond, 1, 5));
      numbers(EdgesOfBondsTest::par, 1, NONE, 4, NONE, (h, k) -> h.link(0, k, 5));
      numbers(withOtherRow(EdgesOfBondsTest::par), 1, NONE, 4, NONE, (h, k) -> h.link(0, k, 5));
      numbers(EdgesOfBondsTest::months, 1, NONE, 24, NONE, (h, k) -> h.link(0, k, 5));
      numbers(EdgesOfBondsTest::par, 1, ARGUMENT, 4, ARGUMENT, (h, k) -> h.link(0, k, 0));
    });
    test(36, "Throws `IllegalArgumentException` if index is not NONE, and not 1 to 999", x -> {
      bounds(EdgesOfBondsTest::par, 1, NONE, 999, NONE, (h, index) -> h.link(0, 1, index));
      due(par().link(0, 1, NONE), NONE);
      argument(par(), h -> h.link(0, 1, -2));
    });
  }

  private static void exDays() {
    test(37, "one is EX, if the end is at most EX days (0 at first) behind that DAY.", x -> {
      Daycounthouse y = par();
      due(y.accrued(0, 181), "4525/182");
      y.ex(0, 1);
      due(y.accrued(0, 180) + " " + y.accrued(0, 181) + " " + y.accrued(0, 182), "2250/91 -25/182 0/1");
      y.ex(0, 60);
      due(y.accrued(0, 121) + " " + y.accrued(0, 122), "3025/182 -750/91");
      // Each day of a short PERIOD, also the first one.
      Daycounthouse z = single(60, 1200, 1000);
      z.ex(0, 60);
      due(z.accrued(0, 0) + " " + z.accrued(0, 59), "-120/1 -2/1");
      z.ex(0, 59);
      due(z.accrued(0, 0) + " " + z.accrued(0, 1), "0/1 -118/1");
    });
    test(37, "Tells EX days (CHANGE).", x -> {
      change(EdgesOfBondsTest::par, 0, h -> h.ex(0, 60));
      change(EdgesOfBondsTest::par, 0, h -> h.ex(0, 0));
    });
    test(37, "Returns how many before.", x -> {
      Daycounthouse y = threeBonds();
      due(y.ex(2, 60) + " " + y.ex(2, 1) + " " + y.ex(2, 0) + " " + y.ex(0, 5), "0 60 1 0");
    });
    test(37, "Throws `IndexOutOfBoundsException` if there is no such BOND", x -> {
      noNumber(EdgesOfBondsTest::halfYears, (h, bond) -> h.ex(bond, 5));
      numbers(EdgesOfBondsTest::par, 0, 0, 0, 0, (h, bond) -> h.ex(bond, 5));
      numbers(EdgesOfBondsTest::threeBonds, 0, 0, 2, 0, (h, bond) -> h.ex(bond, 5));
      numbers(EdgesOfBondsTest::threeBonds, 0, ARGUMENT, 2, ARGUMENT, (h, bond) -> h.ex(bond, -1));
    });
    test(37, "Throws `IllegalArgumentException` if days is not 0 to 60", x ->
        bounds(EdgesOfBondsTest::par, 0, 0, 60, 0, (h, days) -> h.ex(0, days)));
  }

  private static void flows() {
    test(38, "PERIOD by PERIOD, with REST (FACE at first): coupon sum: REST * coupon / 10000 * MONTHS / 12 * INDEX / "
        + "100, ROUNDED", x -> {
      Daycounthouse y = greatest();
      // 999999 * 9999 / 10000 * 2 * 9.99: 19977982.02...
      due(y.flow(0, 1, 1) + " " + y.flow(0, 24, 1), "19977982 19977982");
      y.round(3);
      due(y.flow(0, 1, 1), 19977983);
      due(single(1, 1, 4999).flow(0, 1, 1) + " " + single(1, 1, 5000).flow(0, 1, 1), "0 1");
      due(single(1, 1, 9999).flow(0, 1, 1) + " " + single(1, 999999, 0).flow(0, 1, 1), "1 0");
      due(months().flow(0, 24, 1), 10);
    });
    test(38, "what is paid back is back * INDEX / 100, ROUNDED.", x -> {
      Daycounthouse y = greatest();
      due(y.flow(0, 23, 2) + " " + y.flow(0, 24, 2), "0 9989990");
      y.round(3);
      due(y.flow(0, 24, 2), 9989991);
      // Halves of an even and of an odd number.
      String[] halves = {"0 1", "1 2", "0 2", "1 2"};
      for (int mode = 0; mode <= 3; mode++) {
        Daycounthouse u = par();
        u.link(0, 1, 50);
        u.sink(0, 1, 1);
        u.sink(0, 2, 3);
        u.round(mode);
        due(u.flow(0, 1, 2) + " " + u.flow(0, 2, 2), halves[mode]);
      }
      // REST is less by what is SUNK itself: 400 coins, for which 600 are paid, or 200.
      Daycounthouse v = par();
      v.sink(0, 1, 400);
      v.link(0, 1, 150);
      due(line(v, 2) + ", " + line(v, 4), "600 0 0 900, 600 600 600 0");
      v.link(0, 1, 50);
      due(line(v, 2) + ", " + line(v, 4) + ", " + line(v, 1), "200 0 0 300, 600 600 600 0, 13 8 8 8");
      Daycounthouse z = single(1, 1, 0);
      z.link(0, 1, 49);
      due(z.flow(0, 1, 2), 0);
      z.link(0, 1, 50);
      due(z.flow(0, 1, 2), 1);
    });
    test(38, "FLOW: both together.", x -> {
      due(greatest().flow(0, 24, 3), 19977982 + 9989990);
      due(line(par(), 3), "25 25 25 1025");
    });
    test(38, "Returns that.", x -> {
      due(line(par(), 0) + ", " + line(par(), 4), "182 366 547 731, 1000 1000 1000 0");
    });
    test(38, "0 the DAY of its end, 1 coupon sum, 2 what is paid back, 3 FLOW, 4 REST behind it", x -> {
      Daycounthouse y = par();
      y.sink(0, 1, 1000);
      y.link(0, 1, 999);
      String[] dues = {"182 731", "250 0", "9990 0", "10240 0", "0 0"};
      for (int what = 0; what <= 4; what++) {
        due(y.flow(0, 1, what) + " " + y.flow(0, 4, what), dues[what]);
      }
    });
    test(38, "Throws `IndexOutOfBoundsException` if there is no such BOND or PERIOD", x -> {
      noNumber(EdgesOfBondsTest::halfYears, (h, bond) -> h.flow(bond, 1, 0));
      numbers(EdgesOfBondsTest::threeBonds, 0, 182, 2, 182, (h, bond) -> h.flow(bond, 1, 0));
      numbers(EdgesOfBondsTest::par, 1, 182, 4, 731, (h, k) -> h.flow(0, k, 0));
      numbers(withOtherRow(EdgesOfBondsTest::par), 1, 182, 4, 731, (h, k) -> h.flow(0, k, 0));
      numbers(EdgesOfBondsTest::months, 1, 31, 24, 731, (h, k) -> h.flow(0, k, 0));
      numbers(EdgesOfBondsTest::par, 1, ARGUMENT, 4, ARGUMENT, (h, k) -> h.flow(0, k, 5));
    });
    test(38, "Throws `IllegalArgumentException` if what is not 0 to 4", x ->
        bounds(EdgesOfBondsTest::par, 0, 182, 4, 1000, (h, what) -> h.flow(0, 1, what)));
  }

  /** The first and the last DAY in a PERIOD, and all others next to them. */
  private static void daysOfRow(Object dueFirst, Object dueLast, Told call) {
    bounds(EdgesOfBondsTest::par, 0, dueFirst, 730, dueLast, call);
    bounds(withOtherRow(EdgesOfBondsTest::par), 0, dueFirst, 730, dueLast, call);
    for (int day : new int[] {LAST_DAY, LAST_DAY + 1}) {
      argument(par(), x -> call.on(x, day));
    }
    Supplier<Daycounthouse> late = () -> {
      Daycounthouse x = new Daycounthouse();
      x.schedule(100, 200, 24, false, false, 0);
      x.bond(1000, 0);
      return x;
    };
    for (int day : new int[] {0, 99, 200, LAST_DAY}) {
      argument(late.get(), x -> call.on(x, day));
    }
    Supplier<Daycounthouse> last = () -> {
      Daycounthouse x = new Daycounthouse();
      x.schedule(LAST_DAY - 1, LAST_DAY, 24, false, false, 0);
      x.bond(1000, 0);
      return x;
    };
    for (int day : new int[] {LAST_DAY - 2, LAST_DAY, LAST_DAY + 1}) {
      argument(last.get(), x -> call.on(x, day));
    }
    due(answer(last.get(), x -> call.on(x, LAST_DAY - 1)) instanceof Class, false);
    due(answer(late.get(), x -> call.on(x, 100)) instanceof Class, false);
    due(answer(late.get(), x -> call.on(x, 199)) instanceof Class, false);
  }

  private static void accruedSums() {
    test(39, "On a DAY in the PERIOD k (from its beginning, without its end), with w as (end - DAY) / (end - "
        + "beginning)", x -> {
      Daycounthouse y = par();
      due(y.accrued(0, 0) + " " + y.accrued(0, 1) + " " + y.accrued(0, 181), "0/1 25/182 4525/182");
      due(y.accrued(0, 182) + " " + y.accrued(0, 183), "0/1 25/184");
      due(single(1, 10, 5000).accrued(0, 0), "0/1");
    });
    test(39, "ACCRUED: (1 - w) * coupon sum of k", x -> {
      // Of each PERIOD its own coupon sum: 25, 30, 45 and 90, of which a day brings a part of its own days.
      Daycounthouse y = par();
      y.reset(0, 2, 600);
      y.link(0, 3, 150);
      y.reset(0, 4, 1200);
      due(line(y, 1), "25 30 45 90");
      due(y.accrued(0, 1) + " " + y.accrued(0, 183) + " " + y.accrued(0, 367) + " " + y.accrued(0, 548),
          "25/182 15/92 45/181 45/92");
      y.ex(0, 1);
      due(y.accrued(0, 181) + " " + y.accrued(0, 365) + " " + y.accrued(0, 546) + " " + y.accrued(0, 730),
          "-25/182 -15/92 -45/181 -45/92");
    });
    test(39, "ACCRUED: (1 - w) * coupon sum of k; if EX, - w * that.", x -> {
      Daycounthouse y = greatest();
      y.ex(0, 60);
      due(y.accrued(0, 0) + " " + y.accrued(0, 1), "0/1 19977982/731");
      // 60 days and one ahead of day 731.
      due(y.accrued(0, 671) + " " + y.accrued(0, 730), "-1198678920/731 -19977982/731");
      due(y.accrued(0, 670), "13385247940/731");
      Daycounthouse z = single(10, 5, 0);
      z.ex(0, 60);
      due(z.accrued(0, 3), "0/1");
      // A coin, all of it, by ten days.
      Daycounthouse v = single(10, 1, 9999);
      due(v.accrued(0, 0) + " " + v.accrued(0, 1) + " " + v.accrued(0, 5) + " " + v.accrued(0, 9), "0/1 1/10 1/2 9/10");
      v.ex(0, 60);
      due(v.accrued(0, 0) + " " + v.accrued(0, 1) + " " + v.accrued(0, 5) + " " + v.accrued(0, 9),
          "-1/1 -9/10 -1/2 -1/10");
    });
    test(39, "Returns ACCRUED, as a FRACTION.", x -> due(par().accrued(0, 91), "25/2"));
    test(39, "Throws `IndexOutOfBoundsException` if there is no such BOND", x -> {
      noNumber(EdgesOfBondsTest::halfYears, (h, bond) -> h.accrued(bond, 0));
      numbers(EdgesOfBondsTest::threeBonds, 0, "25/2", 2, "25/2", (h, bond) -> h.accrued(bond, 91));
      numbers(EdgesOfBondsTest::threeBonds, 0, ARGUMENT, 2, ARGUMENT, (h, bond) -> h.accrued(bond, 731));
    });
    test(39, "Throws `IllegalArgumentException` if day is in no PERIOD of its ROW", x ->
        daysOfRow("0/1", "4575/184", (h, day) -> h.accrued(0, day)));
  }

  /** The upper and the lower number of PRICE, by the library's great numbers. */
  private static BigInteger[] worth(Daycounthouse x, int k, int n, long near, long span, int gain, boolean isTimed) {
    BigInteger growth = MILLION.add(BigInteger.valueOf(gain));
    BigInteger top = BigInteger.ZERO;
    for (int j = k; j <= n; j++) {
      BigInteger flow = BigInteger.valueOf(x.flow(0, j, 3)).multiply(MILLION.pow(j - k)).multiply(growth.pow(n - j));
      top = top.add(isTimed ? flow.multiply(BigInteger.valueOf(near + (j - k) * span)) : flow);
    }
    BigInteger first = BigInteger.valueOf(span).multiply(MILLION).add(BigInteger.valueOf(near * gain));
    BigInteger all = top.multiply(BigInteger.valueOf(span)).multiply(MILLION);
    return new BigInteger[] {all, first.multiply(growth.pow(n - k))};
  }

  private static int nearest(BigInteger[] value) {
    return value[0].shiftLeft(1).add(value[1]).divide(value[1].shiftLeft(1)).intValueExact();
  }

  private static void half(int face, int mode, String dues) {
    Daycounthouse x = single(366, face, 0);
    x.round(mode);
    due(face + ": " + x.price(0, 0, 200000), face + ": " + dues.split(" ")[mode]);
  }

  private static void prices() {
    test(40, "PRICE by the yield n (millionths in a PERIOD), with y as n / 1000000: the sum of FLOWS of the PERIODS j "
        + "from k on (that of k without the coupon sum, if EX), each by (1 + w * y) * (1 + y)^(j - k).", x -> {
      Daycounthouse y = par();
      due(y.price(0, 0, 0) + " " + y.price(0, 0, 25000) + " " + y.price(0, 0, 999999), "1100 1000 86");
      due(y.price(0, 730, 0) + " " + y.price(0, 547, 999999) + " " + y.price(0, 547, 25000), "1025 513 1000");
      Daycounthouse z = greatest();
      for (int gain : new int[] {0, 1, 500000, 999998, 999999}) {
        due(z.price(0, 0, gain), nearest(worth(z, 1, 24, 731, 731, gain, false)));
        due(z.price(0, 730, gain), nearest(worth(z, 1, 24, 1, 731, gain, false)));
        due(z.price(0, 17531, gain), nearest(worth(z, 24, 24, 1, 730, gain, false)));
      }
      due(z.price(0, 0, 0), 24 * 19977982 + 9989990);
    });
    test(40, "(that of k without the coupon sum, if EX)", x -> {
      Daycounthouse y = par();
      y.ex(0, 10);
      due(y.price(0, 171, 0) + " " + y.price(0, 172, 0) + " " + y.price(0, 182, 0), "1100 1075 1075");
      due(y.price(0, 720, 0) + " " + y.price(0, 721, 0) + " " + y.price(0, 730, 0), "1025 1000 1000");
      // What is paid back in it stays, and so do FLOW and coupon sum of flow().
      y.sink(0, 1, 400);
      due(y.price(0, 172, 0), 400 + 15 * 3 + 600);
      due(y.flow(0, 1, 1) + " " + y.flow(0, 1, 3), "25 425");
    });
    test(40, "Returns PRICE, ROUNDED.", x -> {
      // 3 by 1.2 is 2.5.
      String[] dues = {"2 2 2", "3 3 2", "3 2 2", "3 3 3"};
      for (int mode = 0; mode <= 3; mode++) {
        Daycounthouse y = single(366, 3, 0);
        y.round(mode);
        due(y.price(0, 0, 199999) + " " + y.price(0, 0, 200000) + " " + y.price(0, 0, 200001), dues[mode]);
        due(y.price(0, 0, 0), 3);
        due(y.price(0, 0, 500000), 2);
        // 9 by 1.2 is 7.5, 999999 by 1.2 is 833332.5, and 999993 by 1.2 is 833327.5.
        half(9, mode, "7 8 8 8");
        half(999999, mode, "833332 833333 833332 833333");
        half(999993, mode, "833327 833328 833328 833328");
      }
    });
    test(40, "Throws `IndexOutOfBoundsException` if there is no such BOND", x -> {
      noNumber(EdgesOfBondsTest::halfYears, (h, bond) -> h.price(bond, 0, 0));
      numbers(EdgesOfBondsTest::threeBonds, 0, 1100, 2, 1100, (h, bond) -> h.price(bond, 0, 0));
      numbers(EdgesOfBondsTest::threeBonds, 0, ARGUMENT, 2, ARGUMENT, (h, bond) -> h.price(bond, 731, -1));
    });
    test(40, "Throws `IllegalArgumentException` if day is in no PERIOD of its ROW, or yield is not 0 to 999999", x -> {
      daysOfRow(1100, 1025, (h, day) -> h.price(0, day, 0));
      bounds(EdgesOfBondsTest::par, 0, 1100, 999999, 86, (h, gain) -> h.price(0, 0, gain));
      argument(par(), h -> h.price(0, MIN, MAX));
    });
  }

  private static void yields() {
    test(41, "YIELD of a price: the greatest n of 0 to 999999 by which PRICE is that or more; NONE without one.", x -> {
      Daycounthouse y = single(366, 999999, 0);
      int[] prices = {1000000, 999999, 999998, 500001, 500000, 499999, 1, 99999999};
      int[] dues = {NONE, 0, 1, 999994, 999998, 999999, 999999, NONE};
      for (int i = 0; i < prices.length; i++) {
        due(y.yieldOf(0, 0, prices[i]), dues[i]);
      }
      // On the day in the middle: 999999 by 1 + y / 2.
      Daycounthouse z = single(2, 999999, 0);
      due(z.yieldOf(0, 1, 999999) + " " + z.yieldOf(0, 1, 666667) + " " + z.yieldOf(0, 1, 666666), "0 999995 999999");
      due(par().yieldOf(0, 0, 1000) + " " + par().yieldOf(0, 0, 1100) + " " + par().yieldOf(0, 0, 1101), "25000 0 -1");
    });
    test(41, "by which PRICE is that or more", x -> {
      Daycounthouse y = greatest();
      for (int price : new int[] {99999999, 99999998, 30000000, 29999999}) {
        for (int day : new int[] {0, 1, 730}) {
          int gain = y.yieldOf(0, day, price);
          BigInteger[] with = worth(y, 1, 24, 731 - day, 731, gain, false);
          BigInteger[] more = worth(y, 1, 24, 731 - day, 731, gain + 1, false);
          BigInteger want = BigInteger.valueOf(price);
          due(with[0].compareTo(want.multiply(with[1])) >= 0, true);
          due(gain == 999999 || more[0].compareTo(want.multiply(more[1])) < 0, true);
        }
      }
      due(y.yieldOf(0, 0, 1), 999999);
    });
    test(41, "NONE without one.", x -> {
      Daycounthouse y = par();
      y.sink(0, 1, 1000);
      due(y.price(0, 182, 0) + " " + y.yieldOf(0, 182, 1) + " " + y.yieldOf(0, 181, 1025), "0 -1 0");
      due(y.yieldOf(0, 181, 1026), NONE);
    });
    test(41, "Returns YIELD.", x -> {
      Daycounthouse y = single(366, 1, 0);
      y.ex(0, 60);
      due(y.yieldOf(0, 365, 1) + " " + y.yieldOf(0, 365, 2), "0 -1");
    });
    test(41, "Throws `IndexOutOfBoundsException` if there is no such BOND", x -> {
      noNumber(EdgesOfBondsTest::halfYears, (h, bond) -> h.yieldOf(bond, 0, 1));
      numbers(EdgesOfBondsTest::threeBonds, 0, 0, 2, 0, (h, bond) -> h.yieldOf(bond, 0, 1100));
      numbers(EdgesOfBondsTest::threeBonds, 0, ARGUMENT, 2, ARGUMENT, (h, bond) -> h.yieldOf(bond, 731, 0));
    });
    test(41, "Throws `IllegalArgumentException` if day is in no PERIOD of its ROW, or price is not 1 to "
        + "99999999", x -> {
      daysOfRow(999999, 999999, (h, day) -> h.yieldOf(0, day, 1));
      bounds(EdgesOfBondsTest::par, 1, 999999, 99999999, NONE, (h, price) -> h.yieldOf(0, 0, price));
      argument(par(), h -> h.yieldOf(0, MIN, MAX));
    });
  }

  private static void worstYields() {
    test(42, "WORST: the least of the YIELD and of those with each CALL whose PERIOD is not ended (NONE is below "
        + "all).", x -> {
      Daycounthouse y = par();
      due(y.worst(0, 0, 1000) + " " + y.worst(0, 0, 1101), "25000 -1");
      y.call(0, 1, 100);
      // With the CALL of the first PERIOD 1025 come, and all is done.
      due(y.worst(0, 0, 1000) + " " + y.worst(0, 0, 1025) + " " + y.worst(0, 0, 1026), "25000 0 -1");
      due(y.yieldOf(0, 0, 1026) > 0, true);
      due(y.worst(0, 181, 1026) + " " + (y.worst(0, 182, 1026) == y.yieldOf(0, 182, 1026)), "-1 true");
      // The YIELD is the least one, if the CALL brings more.
      y.call(0, 1, 200);
      due(y.worst(0, 0, 1050), y.yieldOf(0, 0, 1050));
      y.call(0, 3, 50);
      due(y.worst(0, 0, 575) + " " + y.worst(0, 546, 525) + " " + y.worst(0, 546, 526), "0 0 -1");
      due(y.worst(0, 547, 1025), 0);
    });
    test(42, "(that of k without the coupon sum, if EX)", x -> {
      // On day 172 one is EX by 10 days: of a CALL of this PERIOD just the REST comes.
      Daycounthouse y = par();
      y.ex(0, 10);
      y.call(0, 1, 100);
      due(y.worst(0, 172, 1000) + " " + y.worst(0, 172, 1001), "0 -1");
      due(y.worst(0, 171, 1025) + " " + y.worst(0, 171, 1026), "0 -1");
      // A CALL of a later PERIOD has its coupon sum.
      y.call(0, 1, NONE);
      y.call(0, 2, 100);
      due(y.worst(0, 172, 1025) + " " + y.worst(0, 172, 1026), "0 -1");
    });
    test(42, "(NONE is below all)", x -> {
      Daycounthouse y = par();
      for (int k = 1; k <= 3; k++) {
        y.call(0, k, 200);
      }
      // 2025, 2050 and 2075 by the CALLS, but the bond itself brings 1100.
      due(y.worst(0, 0, 1100) + " " + y.worst(0, 0, 1101), "0 -1");
      y.call(0, 2, 50);
      due(y.worst(0, 0, 550) + " " + y.worst(0, 0, 551), "0 -1");
    });
    test(42, "Returns WORST.", x -> {
      Daycounthouse y = greatest();
      for (int k = 1; k <= 23; k++) {
        y.call(0, k, 200);
      }
      // 19977982 and twice 9989990.01 in the first PERIOD.
      due(y.worst(0, 0, 39957962) + " " + y.worst(0, 0, 39957963) + " " + y.worst(0, 0, 30000000), "0 -1 331932");
      due(y.yieldOf(0, 0, 39957963) > 0 && y.yieldOf(0, 0, 30000000) > 331932, true);
      y.call(0, 1, 50);
      // 19977982 and a half of 9989990.01 in the first PERIOD.
      due(y.worst(0, 0, 24972977) + " " + y.worst(0, 0, 24972978), "0 -1");
      due(y.worst(0, 731, 24972978) > 0, true);
    });
    test(42, "Throws `IndexOutOfBoundsException` if there is no such BOND", x -> {
      noNumber(EdgesOfBondsTest::halfYears, (h, bond) -> h.worst(bond, 0, 1));
      numbers(EdgesOfBondsTest::threeBonds, 0, 0, 2, 0, (h, bond) -> h.worst(bond, 0, 1100));
      numbers(EdgesOfBondsTest::threeBonds, 0, ARGUMENT, 2, ARGUMENT, (h, bond) -> h.worst(bond, 731, 0));
    });
    test(42, "Throws `IllegalArgumentException` if day is in no PERIOD of its ROW, or price is not 1 to "
        + "99999999", x -> {
      daysOfRow(999999, 999999, (h, day) -> h.worst(0, day, 1));
      bounds(EdgesOfBondsTest::par, 1, 999999, 99999999, NONE, (h, price) -> h.worst(0, 0, price));
      argument(par(), h -> h.worst(0, MIN, MAX));
    });
  }

  private static void durations() {
    test(43, "(that of k without the coupon sum, if EX)", x -> {
      // 25, 25, 25 and 1025, on the days 171 and 172; on the second one the first 25 are gone.
      Daycounthouse y = par();
      y.ex(0, 10);
      due(y.duration(0, 171, 0) + " " + y.duration(0, 172, 0) + " " + y.duration(0, 721, 0), "2924 2985 54");
      due(y.yieldOf(0, 171, 1100) + " " + y.yieldOf(0, 171, 1101), "0 -1");
      due(y.yieldOf(0, 172, 1075) + " " + y.yieldOf(0, 172, 1076), "0 -1");
      due(y.yieldOf(0, 721, 1000) + " " + y.yieldOf(0, 721, 1001) + " " + y.yieldOf(0, 720, 1025), "0 -1 0");
      y.sink(0, 1, 1000);
      due(y.duration(0, 171, 0) + " " + y.duration(0, 172, 0) + " " + y.duration(0, 182, 0), "60 54 -1");
    });
    test(43, "Returns the floor of 1000 times: the sum of (w + j - k) * what the PERIOD j brings to PRICE (not "
        + "ROUNDED), by that PRICE; NONE, if it is 0.", x -> {
      Daycounthouse y = single(3, 5, 0);
      due(y.duration(0, 0, 0) + " " + y.duration(0, 1, 999999) + " " + y.duration(0, 2, 7), "1000 666 333");
      due(par().duration(0, 0, 0) + " " + par().duration(0, 730, 0), "3863 5");
      Daycounthouse z = greatest();
      z.reset(0, 1, 0);
      due(z.duration(0, 0, 0) + " " + z.duration(0, 0, 999999) + " " + z.duration(0, 17531, 0), "24000 24000 1");
      Daycounthouse w = greatest();
      for (int gain : new int[] {0, 1, 999998, 999999}) {
        for (int day : new int[] {0, 1, 730}) {
          BigInteger[] timed = worth(w, 1, 24, 731 - day, 731, gain, true);
          BigInteger[] plain = worth(w, 1, 24, 731 - day, 731, gain, false);
          BigInteger top = timed[0].multiply(BigInteger.valueOf(1000));
          due(w.duration(0, day, gain), top.divide(plain[0].multiply(BigInteger.valueOf(731))).intValueExact());
        }
      }
    });
    test(43, "NONE, if it is 0.", x -> {
      Daycounthouse y = par();
      y.sink(0, 1, 1000);
      due(y.duration(0, 182, 0) + " " + y.duration(0, 730, 999999) + " " + y.duration(0, 181, 0), "-1 -1 5");
      // Just a coupon sum is left, and that one is gone if EX.
      Daycounthouse z = new Daycounthouse();
      z.schedule(0, 60, 12, false, false, 0);
      z.bond(1, 9999);
      z.link(0, 1, 50);
      z.round(0);
      due(z.flow(0, 1, 3) + " " + z.duration(0, 0, 0), "0 -1");
      z.link(0, 1, 101);
      due(z.flow(0, 1, 3) + " " + z.duration(0, 0, 0), "2 1000");
    });
    test(43, "(not ROUNDED)", x -> {
      // PRICE is 1 / 2 at most, ROUNDED down nothing, but not 0.
      Daycounthouse y = single(366, 1, 0);
      y.round(0);
      due(y.price(0, 0, 999999) + " " + y.duration(0, 0, 999999), "0 1000");
    });
    test(43, "Throws `IndexOutOfBoundsException` if there is no such BOND", x -> {
      noNumber(EdgesOfBondsTest::halfYears, (h, bond) -> h.duration(bond, 0, 1));
      numbers(EdgesOfBondsTest::threeBonds, 0, 3863, 2, 3863, (h, bond) -> h.duration(bond, 0, 0));
      numbers(EdgesOfBondsTest::threeBonds, 0, ARGUMENT, 2, ARGUMENT, (h, bond) -> h.duration(bond, 731, -1));
    });
    test(43, "Throws `IllegalArgumentException` if day is in no PERIOD of its ROW, or yield is not 0 to 999999", x -> {
      daysOfRow(3863, 5, (h, day) -> h.duration(0, day, 0));
      bounds(EdgesOfBondsTest::par, 0, 3863, 999999, 3381, (h, gain) -> h.duration(0, 0, gain));
      argument(par(), h -> h.duration(0, MIN, MAX));
    });
  }

  private static void moments() {
    test(32, "and the ROW of the moment, with n PERIODS.", x -> {
      // Neither the DAYS nor the MONTHS of a later ROW, nor a FEAST on one of the DAYS, touch what was told by then.
      x.schedule(0, 731, 6, false, false, 1);
      x.bond(1000, 500);
      String before = line(x, 0) + ", " + line(x, 1) + ", " + x.accrued(0, 100) + ", " + x.price(0, 100, 30000);
      due(before, "184 366 548 731, 25 25 25 25, 175/13, 997");
      x.schedule(0, 731, 24, false, false, 0);
      x.feast(7, 3);
      due(line(x, 0) + ", " + line(x, 1) + ", " + x.accrued(0, 100) + ", " + x.price(0, 100, 30000), before);
      due(x.bond(1000, 500) + " " + x.flow(1, 1, 0) + " " + x.flow(1, 1, 1), "1 731 100");
    });
    test(38, "ROUNDED by the MODE (1 at first)", x -> {
      // The MODE is that of the house when one asks: coupon sums of a half, and 3 by 1.2 is 2.5.
      String[] dues = {"0 1 2", "1 2 3", "0 2 2", "1 2 3"};
      for (int told = 0; told <= 3; told++) {
        Daycounthouse y = new Daycounthouse();
        y.round(told);
        y.schedule(0, 366, 12, false, false, 0);
        y.bond(1, 5000);
        y.bond(3, 5000);
        y.bond(3, 0);
        for (int mode = 0; mode <= 3; mode++) {
          y.round(mode);
          due(y.flow(0, 1, 1) + " " + y.flow(1, 1, 1) + " " + y.price(2, 0, 200000), dues[mode]);
        }
      }
    });
  }

  public static void main(String[] args) {
    bonds();
    sinks();
    calls();
    resets();
    links();
    exDays();
    flows();
    accruedSums();
    prices();
    yields();
    worstYields();
    durations();
    moments();
    finish(32, 43, 4);
  }

  private EdgesOfBondsTest() {}
}
