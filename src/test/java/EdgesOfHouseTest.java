import java.lang.reflect.Method;
import java.lang.reflect.Modifier;
import java.math.BigInteger;
import java.util.ArrayList;
import java.util.List;
import java.util.function.Function;
import java.util.function.Supplier;

/** The boundary cases of the promises 55 to 59, and of what the document says of all calls. */
public final class EdgesOfHouseTest extends Edges {
  /** A bit of all, in nine CHANGES, so that there is room for one more. */
  private static Daycounthouse some() {
    Daycounthouse x = new Daycounthouse();
    x.moving(1);
    x.step(50, 100);
    x.schedule(0, 731, 6, false, false, 0);
    x.loan(1000, 500, 0, 0);
    x.bond(1000, 500);
    x.quote(5, 100);
    x.late(25, 5);
    x.pay(0, 200, 50);
    x.sink(0, 2, 100);
    return x;
  }

  /** As much of all as there may be. */
  private static Daycounthouse full() {
    Daycounthouse x = new Daycounthouse();
    for (int i = 1; i <= 6; i++) {
      x.feast(i, i);
      x.quote(i, 100 + i);
    }
    for (int i = 1; i <= 8; i++) {
      x.step(i, i);
    }
    x.schedule(0, 731, 1, false, false, 0);
    for (int i = 0; i < 3; i++) {
      x.loan(999999 - i, 9999 - i, i, i);
      x.bond(999999 - i, 9999 - i);
    }
    for (int i = 0; i < 20; i++) {
      x.pay(0, 10 * i, 999999);
    }
    for (int i = 0; i < 14; i++) {
      x.type(10);
    }
    return x;
  }

  private static final List<Function<Daycounthouse, Object>> CHANGES = List.of(
      x -> x.feast(1, 6), x -> x.feast(2, 31), x -> x.moving(0), Daycounthouse::unfeast, x -> x.round(3),
      x -> x.round(1), x -> x.step(60, 1), x -> x.step(50, 1), x -> x.step(50, 100), x -> x.step(50, NONE),
      x -> x.step(60, NONE), x -> x.schedule(5, 50, 1, true, true, 1), x -> x.schedule(0, 731, 6, false, false, 0),
      x -> x.loan(7, 7, 1, 7), x -> x.holiday(0, 3), x -> x.holiday(0, 0), x -> x.early(0, 1, 5), x -> x.early(0, 1, 0),
      x -> x.change(0, 1, 5), x -> x.change(0, 1, NONE), x -> x.late(0, 0), x -> x.late(25, 5), x -> x.order(5),
      x -> x.order(0), x -> x.pay(0, 200, 1), x -> x.pay(0, 0, 1), x -> x.bond(7, 7), x -> x.sink(0, 1, 5),
      x -> x.sink(0, 1, 0), x -> x.call(0, 1, 50), x -> x.call(0, 1, NONE), x -> x.reset(0, 1, 0),
      x -> x.reset(0, 1, NONE), x -> x.link(0, 1, 1), x -> x.link(0, 1, NONE), x -> x.ex(0, 60), x -> x.ex(0, 0),
      x -> x.quote(5, 100), Daycounthouse::unquote);

  private static final List<Function<Daycounthouse, Object>> LOOKS = List.of(
      x -> x.day(2000, 1, 1), x -> x.date(0), x -> x.weekDay(0), x -> x.isBank(0), x -> x.roll(0, 1),
      x -> x.later(0, 1, true), x -> x.banks(0, 5), x -> x.share(0, 5, 0), x -> x.simple(5, 5, 0, 5, 0),
      x -> x.grown(5, 5, 5, 5, true), x -> x.stepped(5, 0, 500, 0), Daycounthouse::row, x -> x.period(0),
      x -> x.planned(0, 1, 1), x -> x.all(0, 0), x -> x.rateOf(0), x -> x.owes(0, 500, 0), x -> x.flow(0, 1, 0),
      x -> x.accrued(0, 5), x -> x.price(0, 5, 5), x -> x.yieldOf(0, 5, 5), x -> x.worst(0, 5, 5),
      x -> x.duration(0, 5, 5), x -> x.factor(0), x -> x.forward(1), x -> x.par(1), x -> x.swap(5, 1),
      x -> x.split(5, 5, 5, true), Daycounthouse::fault, x -> x.house(10), Daycounthouse::isSound,
      Daycounthouse::digest);

  private static void comesBack(Daycounthouse x, Function<Daycounthouse, Object> call,
      Function<Daycounthouse, Object> again, Object want) {
    call.apply(x);
    x.undo();
    due(again.apply(x), want);
  }

  private static void undone() {
    test(55, "UNDO: the last 10 of the calls that are said to CHANGE (also if nothing is other then) can be taken "
        + "back, one by one.", x -> {
      for (Function<Daycounthouse, Object> call : CHANGES) {
        Object want = answer(some(), call);
        due(want instanceof Class, false);
        change(EdgesOfHouseTest::some, want, call);
      }
      for (int fee = 1; fee <= 10; fee++) {
        x.late(fee, 0);
        due(x.house(10), fee);
      }
      x.late(11, 0);
      due(x.house(10), 10);
      takeTenBack(x);
    });
    test(55, "the last 10 of the calls that are said to CHANGE", x -> {
      for (Function<Daycounthouse, Object> call : LOOKS) {
        Object want = answer(some(), call);
        due(want instanceof Class, false);
        still(some(), want, call);
        Daycounthouse y = some();
        keepTen(y);
        call.apply(y);
        takeTenBack(y);
      }
      keepTen(x);
      x.knock();
      x.type(5);
      x.wipe();
      takeTenBack(x);
    });
    test(55, "Takes the last CHANGE back that can be (the SLIP stays).", x -> {
      keepTen(x);
      x.type(11);
      x.undo();
      due(x.house(7) + " " + x.fault() + " " + x.type(5), "10 1 2");
      x.wipe();
      x.undo();
      due(x.house(7) + " " + x.wipe(), "9 0");
      // What was taken back does not come again.
      x.late(77, 0);
      x.undo();
      due(x.house(7), 9);
    });
    test(55, "Takes the last CHANGE back", x -> {
      // What is told of the last PERIOD, the last LOAN and the last BOND comes back too.
      Daycounthouse y = full();
      for (int i = 0; i < 3; i++) {
        int one = i;
        comesBack(y, h -> h.holiday(one, 23), h -> h.holiday(one, 0), 0);
        comesBack(y, h -> h.early(one, 24, 7), h -> h.early(one, 24, 0), 0);
        comesBack(y, h -> h.change(one, 24, 7), h -> h.change(one, 24, NONE), NONE);
        comesBack(y, h -> h.sink(one, 24, 7), h -> h.sink(one, 24, 0), 0);
        comesBack(y, h -> h.call(one, 23, 70), h -> h.call(one, 23, NONE), NONE);
        comesBack(y, h -> h.reset(one, 24, 7), h -> h.reset(one, 24, NONE), NONE);
        comesBack(y, h -> h.link(one, 24, 7), h -> h.link(one, 24, NONE), NONE);
        comesBack(y, h -> h.ex(one, 7), h -> h.ex(one, 0), 0);
      }
      comesBack(y, h -> h.pay(0, 190, 1), h -> h.pay(0, 190, 2), 1000001);
      comesBack(y, h -> h.step(8, 7), h -> h.step(8, 8), 8);
      comesBack(y, h -> h.late(7, 7), h -> h.late(0, 0), 0);
      comesBack(y, h -> h.order(3), h -> h.order(0), 0);
      comesBack(y, h -> h.round(3), h -> h.round(1), 1);
    });
    test(55, "Returns how many can be taken back then.", x -> {
      keepTen(x);
      due(x.undo() + " " + x.undo(), "9 8");
      x.late(5, 5);
      due(x.undo(), 8);
      for (int i = 0; i < 30; i++) {
        x.late(100 + i, 5);
      }
      for (int left = 9; left >= 0; left--) {
        due(x.undo(), left);
        due(x.house(7), 119 + left);
      }
    });
    test(55, "Throws `IllegalStateException` if there is none", x -> {
      state(x, Daycounthouse::undo);
      x.round(1);
      due(x.undo(), 0);
      state(x, Daycounthouse::undo);
      Daycounthouse y = full();
      for (int left = 9; left >= 0; left--) {
        due(y.undo(), left);
      }
      state(y, Daycounthouse::undo);
      due(y.owes(0, LAST_DAY, 4), 10 * 999999);
    });
  }

  private static void houses() {
    test(56, "Returns that.", x -> {
      int[] least = {0, 0, 0, 0, 0, 0, 1, 0, 0, 0, 0, 0};
      int[] most = {6, 8, 24, 3, 3, 6, 3, 9999, 60, 5, 10, 1};
      Daycounthouse y = full();
      y.round(3);
      y.late(9999, 60);
      y.order(5);
      y.knock();
      for (int what = 0; what <= 11; what++) {
        due(x.house(what) + " " + y.house(what), least[what] + " " + most[what]);
      }
    });
    test(56, "0 FEASTS, 1 STEPS, 2 PERIODS of the ROW (0 without), 3 LOANS, 4 BONDS, 5 bonds of the CURVE, 6 MODE, 7 "
        + "FEE, 8 GRACE, 9 ORDER, 10 how many CHANGES can be taken back, 11 how often one knocked", x -> {
      int[] dues = {1, 1, 4, 1, 1, 1, 1, 25, 5, 0, 9, 0};
      for (int what = 0; what <= 11; what++) {
        due(some().house(what), dues[what]);
      }
      x.schedule(0, 731, 1, false, false, 0);
      due(x.house(2), 24);
      x.schedule(0, 732, 1, false, false, 0);
      due(x.house(2) + " " + x.house(10), "24 1");
      x.undo();
      due(x.house(2), 0);
    });
    test(56, "Throws `IllegalArgumentException` if what is not 0 to 11", x -> {
      bounds(Daycounthouse::new, 0, 0, 11, 0, Daycounthouse::house);
      bounds(EdgesOfHouseTest::full, 0, 6, 11, 0, Daycounthouse::house);
    });
    test(57, "Knocks.", x -> {
      x.knock();
      due(x.house(11) + " " + x.house(10), "1 0");
      state(x, Daycounthouse::undo);
      x.round(0);
      x.knock();
      x.undo();
      due(x.house(11), 2);
    });
    test(57, "Returns how often one knocked, with this.", x -> {
      for (int many = 1; many <= 511; many++) {
        due(x.knock(), many);
      }
      due(x.house(11), 511);
    });
  }

  private static Supplier<Daycounthouse> withCall(int mode, int percent) {
    return () -> {
      Daycounthouse y = some();
      y.round(mode);
      y.call(0, 1, percent);
      y.sink(0, 2, 999);
      y.link(0, 3, 250);
      return y;
    };
  }

  private static void soundness() {
    test(58, "Returns whether all of this is so", x -> {
      due(x.isSound(), true);
      due(some().isSound() + " " + full().isSound(), "true true");
      for (int mode = 0; mode <= 3; mode++) {
        for (int order = 0; order <= 5; order++) {
          Daycounthouse y = full();
          y.round(mode);
          y.order(order);
          y.late(9999, order);
          y.early(1, 5, 999999);
          y.change(2, 3, 0);
          due(y.isSound(), true);
        }
      }
    });
    test(58, "with p as each BOND's PRICE (ROUNDED) by 30000 on the first DAY of its ROW, if that is above 0: by YIELD "
        + "of p (if there is one) PRICE (not ROUNDED) is p or more, and by 1 more, if that YIELD is below 999999, "
        + "less", x -> {
      // PRICE is nothing; ROUNDED up above all that comes; one that comes by each yield.
      x.schedule(0, 366, 12, false, false, 0);
      x.bond(1, 0);
      x.round(0);
      due(x.price(0, 0, 30000) + " " + x.isSound(), "0 true");
      x.round(3);
      due(x.price(0, 0, 30000) + " " + x.yieldOf(0, 0, 1) + " " + x.isSound(), "1 0 true");
      x.schedule(0, 17532, 24, false, false, 0);
      x.bond(999999, 9999);
      x.link(1, 1, 999);
      due(x.isSound(), true);
      x.bond(1, 0);
      x.reset(2, 24, 9999);
      x.ex(2, 60);
      due(x.isSound(), true);
    });
    test(58, "by YIELD of p (if there is one) PRICE (not ROUNDED) is p or more", x -> {
      // Of the YIELD, not of WORST: by a CALL of 98 percent that one is below, by 50 NONE.
      for (int mode = 0; mode <= 3; mode++) {
        for (int percent : new int[] {50, 98, 100, 200}) {
          Daycounthouse y = withCall(mode, percent).get();
          due(y.worst(0, 0, y.price(0, 0, 30000)) < y.yieldOf(0, 0, y.price(0, 0, 30000)), percent < 100);
          due(y.isSound(), true);
          due(y.digest() + " " + y.isSound(), whole(withCall(mode, percent), 4, 1000).longValue() + " true");
        }
      }
    });
  }

  private static BigInteger mixed(BigInteger d, long v) {
    return d.multiply(BigInteger.valueOf(31)).add(BigInteger.valueOf(v));
  }

  private static BigInteger mixed(BigInteger start, String text) {
    BigInteger d = start;
    for (int i = 0; i < text.length(); i++) {
      d = mixed(d, text.charAt(i));
    }
    return d;
  }

  private static BigInteger mixedLoan(BigInteger start, Daycounthouse x, int loan) {
    BigInteger d = start;
    for (int what = 0; what <= 5; what++) {
      d = mixed(d, x.all(loan, what));
    }
    d = mixed(d, x.rateOf(loan));
    int n = x.all(loan, 5);
    for (int k = 1; k <= n; k++) {
      for (int what = 0; what <= 5; what++) {
        d = mixed(d, x.planned(loan, k, what));
      }
    }
    int end = x.planned(loan, n, 0);
    for (int what = 0; what <= 5; what++) {
      d = mixed(d, x.owes(loan, end, what));
    }
    return d;
  }

  /** All BONDS of these tests have their first DAY on day 0, and PERIODS till the REST is 0. */
  private static BigInteger mixedBond(BigInteger start, Daycounthouse x, int bond, int n, int face) {
    BigInteger d = start;
    for (int k = 1; k <= n; k++) {
      for (int what = 0; what <= 4; what++) {
        d = mixed(d, x.flow(bond, k, what));
      }
    }
    d = mixed(d, x.price(bond, 0, 20000));
    d = mixed(d, x.duration(bond, 0, 20000));
    return mixed(d, x.worst(bond, 0, face));
  }

  /** The checksum without a wrap-around; a new house for each group of calls, as one takes 512. */
  private static BigInteger whole(Supplier<Daycounthouse> maker, int periods, int... faces) {
    Daycounthouse x = maker.get();
    BigInteger d = BigInteger.valueOf(6904);
    for (int what = 0; what <= 11; what++) {
      d = mixed(d, x.house(what));
    }
    d = mixed(d, x.row());
    d = mixed(d, x.banks(0, 3000));
    for (int loan = 0; loan < x.house(3); loan++) {
      d = mixedLoan(d, maker.get(), loan);
    }
    for (int bond = 0; bond < x.house(4); bond++) {
      d = mixedBond(d, maker.get(), bond, periods, faces[bond]);
    }
    for (int k = 0; k <= x.house(5); k++) {
      d = mixed(d, x.factor(k));
    }
    d = mixed(d, x.fault());
    return mixed(d, x.isSound() ? 1 : 0);
  }

  private static void checksums() {
    test(59, "Computes a checksum.", x -> {
      // 6904, then the v of a new house: house(), "-", the BANK DAYS, "1/1", fault(), isSound().
      due(x.banks(0, 3000), 2142);
      due(x.digest(), whole(Daycounthouse::new, 0).longValue());
      due(x.house(10) + " " + x.house(11), "0 0");
    });
    test(59, "A number d starts with 6904; then d becomes d * 31 + v, which wraps around as a 64-bit integer, for each "
        + "v in this order: house() of 0 to 11; the codes of the signs of row(); how many BANK DAYS there are from 0 "
        + "to 3000; LOAN by LOAN: all() of 0 to 5, rateOf(), PERIOD by PERIOD planned() of 0 to 5, owes() of 0 to 5 on "
        + "the last DAY of its ROW; BOND by BOND: PERIOD by PERIOD flow() of 0 to 4, price() and duration() by 20000 "
        + "on the first DAY of its ROW, worst() there of FACE; the codes of the signs of factor() of all years from 0 "
        + "on; fault(); 1 if isSound(), otherwise 0.", x -> {
      due(some().digest(), whole(EdgesOfHouseTest::some, 4, 1000).longValue());
      due(full().digest(), whole(EdgesOfHouseTest::full, 24, 999999, 999998, 999997).longValue());
      Supplier<Daycounthouse> sunk = () -> {
        // All is SUNK at once: NONE as duration on later days, and a CALL that makes WORST NONE.
        Daycounthouse y = some();
        y.sink(0, 1, 1000);
        y.call(0, 2, 50);
        y.reset(0, 1, 0);
        y.link(0, 1, 1);
        y.type(11);
        y.knock();
        return y;
      };
      due(sunk.get().worst(0, 0, 1000), NONE);
      due(sunk.get().digest(), whole(sunk, 4, 1000).longValue());
      Supplier<Daycounthouse> called = () -> {
        Daycounthouse y = some();
        y.call(0, 1, 100);
        y.reset(0, 2, 900);
        return y;
      };
      due(called.get().worst(0, 0, 1000) < called.get().yieldOf(0, 0, 1000), true);
      due(called.get().digest(), whole(called, 4, 1000).longValue());
      for (int coupon = 0; coupon < 3000; coupon += 100) {
        // PERIODS so long that price() and duration() tell a millionth more or less.
        int one = coupon;
        Supplier<Daycounthouse> maker = () -> {
          Daycounthouse y = new Daycounthouse();
          y.schedule(0, 17532, 24, false, false, 0);
          y.bond(999999, one);
          return y;
        };
        due(maker.get().digest(), whole(maker, 24, 999999).longValue());
      }
    });
    test(59, "which wraps around as a 64-bit integer", x -> {
      // Also that of a new house has more than 64 bits; among these some have the highest one, and some have not.
      due(whole(Daycounthouse::new, 0).bitLength() > 100, true);
      int below = 0;
      for (int i = 0; i < 64; i++) {
        int fee = i * 150;
        Supplier<Daycounthouse> maker = () -> {
          Daycounthouse y = new Daycounthouse();
          y.late(fee, 0);
          return y;
        };
        long d = maker.get().digest();
        due(d, whole(maker, 0).longValue());
        below += d < 0 ? 1 : 0;
      }
      due(below > 8 && below < 56, true);
    });
    test(59, "Returns d.", x -> due(x.digest(), new Daycounthouse().digest()));
  }

  private static void words() {
    test(2, "NONE is -1.", x -> {
      due(x.day(1999, 12, 31) + " " + x.later(0, -1, false) + " " + x.period(0) + " " + x.step(0, -1), "-1 -1 -1 -1");
    });
    test(18, "-9 (REFUSED) is told, where a call is LET, but cannot be done; then nothing changes.", x -> {
      refused(EdgesOfHouseTest::some, h -> h.schedule(0, LAST_DAY, 1, false, false, 0));
      refused(EdgesOfHouseTest::some, h -> h.schedule(0, 1, 1, false, false, 1));
      refused(EdgesOfHouseTest::some, h -> h.schedule(0, 31, 1, false, false, 2));
      refused(EdgesOfHouseTest::some, h -> h.quote(50, 1));
      refused(EdgesOfHouseTest::some, Daycounthouse::terms);
    });
    test(21, "Numbers of things start with 0, those of PERIODS with 1.", x -> {
      Daycounthouse y = some();
      due(y.house(3) + " " + y.house(4) + " " + y.period(0), "1 1 1");
      due(y.all(0, 5) + " " + y.flow(0, 1, 0) + " " + y.planned(0, 4, 0), "4 182 731");
      index(y, h -> h.all(1, 5));
      index(y, h -> h.flow(0, 0, 0));
      index(y, h -> h.planned(0, 0, 0));
    });
    test(43, "\"floor\" of a fraction is the greatest whole number that is not above it.", x -> {
      x.schedule(0, 3, 12, false, false, 0);
      x.bond(5, 0);
      due(x.duration(0, 0, 0) + " " + x.duration(0, 1, 0) + " " + x.split(2, 1, 2, true), "1000 666 1");
    });
    test(46, "A FRACTION as a text: in lowest terms, its upper number, \"/\", its lower number (above 0), \"-\" ahead "
        + "if it is below 0; 0 is \"0/1\".", x -> {
      x.quote(0, 200);
      x.quote(0, 100);
      due(x.factor(1) + " " + x.forward(1) + " " + x.par(1) + " " + x.swap(0, 1), "2/1 -1/2 -1/2 -100/1");
      due(x.forward(2) + " " + x.par(2) + " " + x.swap(0, 2) + " " + x.share(7, 7, 2), "1/1 0/1 0/1 0/1");
      Daycounthouse y = some();
      due(y.accrued(0, 0) + " " + y.share(0, 90, 0), "0/1 1/4");
    });
    test(14, "Coins and rates are whole numbers; a rate or coupon of 1 is a ten-thousandth of the sum in a "
        + "year.", x -> {
      due(x.simple(10000, 1, 0, 365, 1) + " " + x.grown(10000, 1, 1, 1, false), "1 10001");
      x.schedule(0, 366, 12, false, false, 0);
      x.loan(10000, 1, 0, 4);
      x.bond(10000, 1);
      due(x.planned(0, 1, 1) + " " + x.flow(0, 1, 1) + " " + x.rateOf(0), "1 1 100");
    });
    test(1, "An object is used for at most 512 calls after it has been made", x -> {
      for (int i = 1; i <= 511; i++) {
        x.late(i, i % 61);
      }
      due(x.house(7), 511);
    });
    test(1, "The constructor and the methods follow, a promise each: the signature, then what it does.", x -> {
      int many = 0;
      for (Method method : Daycounthouse.class.getDeclaredMethods()) {
        many += Modifier.isPublic(method.getModifiers()) ? 1 : 0;
      }
      due(many + " " + Daycounthouse.class.getConstructors().length, "58 1");
    });
  }

  /** Calls that throw on a full house, each with the exception that is due. */
  private static List<Object> throwing() {
    List<Object> all = new ArrayList<>();
    add(all, ARGUMENT, x -> x.date(-1), x -> x.weekDay(36525), x -> x.isBank(-1), x -> x.roll(0, 5),
        x -> x.later(0, 1201, true), x -> x.banks(1, 0), x -> x.round(4), x -> x.share(0, 1, 8),
        x -> x.simple(-1, 0, 0, 1, 0), x -> x.grown(0, 0, 61, 1, true), x -> x.step(0, -2), x -> x.stepped(0, 1, 0, 0),
        x -> x.schedule(0, 0, 1, true, true, 0), x -> x.period(-1), x -> x.holiday(0, 24), x -> x.early(0, 1, -1),
        x -> x.change(0, 1, -2), x -> x.planned(0, 1, 6), x -> x.all(0, 6), x -> x.late(10000, 0), x -> x.late(5, 61),
        x -> x.order(6), x -> x.owes(0, 0, 6), x -> x.sink(0, 1, -1), x -> x.call(0, 1, 0), x -> x.reset(0, 1, -2),
        x -> x.link(0, 1, 0), x -> x.ex(0, 61), x -> x.flow(0, 1, 5), x -> x.accrued(0, 731), x -> x.price(0, 0, -1),
        x -> x.yieldOf(0, 0, 0), x -> x.worst(0, 0, 0), x -> x.duration(0, 0, -1), x -> x.swap(51, 1),
        x -> x.split(-1, 0, 0, true), x -> x.house(12));
    add(all, INDEX, x -> x.rateOf(3), x -> x.factor(7), x -> x.forward(0), x -> x.par(0));
    add(all, STATE, x -> x.feast(1, 1), x -> x.moving(0), x -> x.step(0, 0), x -> x.loan(1, 0, 0, 0),
        x -> x.pay(0, 5, 5), x -> x.bond(1, 0), x -> x.quote(0, 100), x -> x.type(0), Daycounthouse::terms);
    return all;
  }

  @SafeVarargs
  private static void add(List<Object> all, Class<?> type, Function<Daycounthouse, Object>... calls) {
    for (Function<Daycounthouse, Object> call : calls) {
      all.add(type);
      all.add(call);
    }
  }

  @SuppressWarnings("unchecked")
  private static Function<Daycounthouse, Object> callAt(List<Object> all, int i) {
    return (Function<Daycounthouse, Object>) all.get(i);
  }

  private static void exceptions() {
    test(55, "A method that throws an exception changes nothing.", x -> {
      List<Object> all = throwing();
      for (int i = 0; i < all.size(); i += 2) {
        nothing(EdgesOfHouseTest::full, all.get(i), callAt(all, i + 1));
      }
      nothing(Daycounthouse::new, STATE, Daycounthouse::unfeast);
      nothing(Daycounthouse::new, STATE, Daycounthouse::unquote);
      state(x, Daycounthouse::undo);
    });
    test(30, "If several exceptions apply, the one that is named first is thrown.", x -> {
      List<Object> all = new ArrayList<>();
      add(all, ARGUMENT, h -> h.feast(0, 32), h -> h.moving(61), h -> h.step(-1, 5), h -> h.step(0, 10000),
          h -> h.loan(0, 0, 0, 0), h -> h.loan(1, 0, 0, 8), h -> h.pay(0, -1, 5), h -> h.pay(0, 5, 0),
          h -> h.bond(0, 0), h -> h.bond(1, 10000), h -> h.quote(51, 1), h -> h.quote(0, 201), h -> h.type(17));
      add(all, INDEX, h -> h.holiday(3, 24), h -> h.early(3, 1, -1), h -> h.early(0, 25, -1), h -> h.change(-1, 1, -2),
          h -> h.change(0, 0, -2), h -> h.planned(3, 1, 6), h -> h.planned(0, 25, 6), h -> h.all(3, 6),
          h -> h.pay(3, -1, 0), h -> h.pay(-1, 5, 5), h -> h.owes(3, -1, 6), h -> h.sink(3, 1, -1),
          h -> h.sink(0, 0, -1), h -> h.call(3, 1, 0), h -> h.call(0, 24, 0), h -> h.reset(3, 1, -2),
          h -> h.reset(0, 25, -2), h -> h.link(3, 1, 0), h -> h.link(0, 0, 0), h -> h.ex(3, 61), h -> h.flow(3, 1, 5),
          h -> h.flow(0, 25, 5), h -> h.accrued(3, -1), h -> h.price(3, -1, -1), h -> h.yieldOf(3, -1, 0),
          h -> h.worst(3, -1, 0), h -> h.duration(3, -1, -1), h -> h.swap(51, 0), h -> h.swap(-1, 7));
      for (int i = 0; i < all.size(); i += 2) {
        still(full(), all.get(i), callAt(all, i + 1));
      }
      argument(x, h -> h.loan(0, 0, 0, 0));
      argument(x, h -> h.bond(0, 0));
    });
    test(54, "Exceptions go ahead of -9.", x -> {
      argument(some(), h -> h.schedule(0, LAST_DAY, 1, false, false, 5));
      argument(some(), h -> h.schedule(0, LAST_DAY, 0, false, false, 0));
      argument(some(), h -> h.schedule(LAST_DAY, 0, 1, false, false, 1));
      argument(some(), h -> h.schedule(-1, LAST_DAY, 1, false, false, 1));
      argument(some(), h -> h.schedule(0, LAST_DAY + 1, 1, false, false, 1));
      argument(some(), h -> h.quote(51, 1));
      argument(some(), h -> h.quote(50, 0));
      state(full(), h -> h.quote(50, 1));
      state(x, Daycounthouse::terms);
      x.type(5);
      state(x, Daycounthouse::terms);
      state(full(), Daycounthouse::terms);
    });
  }

  public static void main(String[] args) {
    words();
    exceptions();
    undone();
    houses();
    soundness();
    checksums();
    finish(55, 59, 0);
  }

  private EdgesOfHouseTest() {}
}
