import java.math.BigInteger;
import java.util.function.Supplier;

/** The boundary cases of the promises 44 to 54 and of the part 5: the CURVE, two lenders, the SLIP. */
public final class EdgesOfCurveTest extends Edges {
  private static final String SIGNS = "0123456789LB,%ape";
  private static final BigInteger ONE = BigInteger.ONE;

  /** FACTORS of 1 / 2 and no more. */
  private static Daycounthouse half() {
    Daycounthouse x = new Daycounthouse();
    x.quote(0, 50);
    return x;
  }

  private static Daycounthouse sixQuotes(int coupon, int price) {
    Daycounthouse x = new Daycounthouse();
    for (int k = 1; k <= 6; k++) {
      due(x.quote(coupon, price), k);
    }
    return x;
  }

  private static Daycounthouse full() {
    return sixQuotes(5, 100);
  }

  private static void quotes() {
    test(44, "CURVE: at most 6 told bonds of 1, 2, 3, ... years, each with a yearly coupon of c per 100 and a "
        + "price.", x -> {
      for (int k = 1; k <= 6; k++) {
        due(x.quote(k, 100), k);
        due(x.house(5), k);
      }
      state(x, h -> h.quote(0, 100));
      x.unquote();
      due(x.quote(0, 100), 6);
    });
    test(44, "Tells the next bond of the CURVE (CHANGE, if it is done).", x -> {
      change(Daycounthouse::new, 1, h -> h.quote(0, 1));
      change(EdgesOfCurveTest::half, 2, h -> h.quote(50, 200));
    });
    test(44, "Returns of how many years it is; -9, if its FACTOR would not be above 0.", x -> {
      // With a FACTOR of 1 / 2 a coupon of 50 takes 25 away.
      refused(EdgesOfCurveTest::half, h -> h.quote(50, 25));
      refused(EdgesOfCurveTest::half, h -> h.quote(50, 24));
      refused(EdgesOfCurveTest::half, h -> h.quote(50, 1));
      refused(EdgesOfCurveTest::half, h -> h.quote(2, 1));
      Daycounthouse y = half();
      due(y.quote(50, 26) + " " + y.factor(2), "2 1/150");
      Daycounthouse z = half();
      due(z.quote(1, 1) + " " + z.factor(2), "2 1/202");
      // The first one has nothing to take away.
      due(x.quote(50, 1) + " " + x.factor(1), "1 1/150");
    });
    test(44, "-9, if its FACTOR would not be above 0.", x -> {
      // Five FACTORS of 1: a coupon of 40 takes 200 away.
      for (int k = 1; k <= 5; k++) {
        x.quote(0, 100);
      }
      still(x, REFUSED, h -> h.quote(40, 200));
      still(x, REFUSED, h -> h.quote(50, 200));
      due(x.quote(39, 196) + " " + x.factor(6), "6 1/139");
    });
    test(44, "Throws `IllegalArgumentException` if coupon is not 0 to 50, or price not 1 to 200", x -> {
      bounds(Daycounthouse::new, 0, 1, 50, 1, (h, coupon) -> h.quote(coupon, 1));
      bounds(Daycounthouse::new, 1, 1, 200, 1, (h, price) -> h.quote(50, price));
      bounds(EdgesOfCurveTest::full, 0, STATE, 50, STATE, (h, coupon) -> h.quote(coupon, 1));
      bounds(EdgesOfCurveTest::full, 1, STATE, 200, STATE, (h, price) -> h.quote(0, price));
      bounds(EdgesOfCurveTest::half, 1, REFUSED, 200, 2, (h, price) -> h.quote(50, price));
      argument(x, h -> h.quote(MIN, MAX));
    });
    test(44, "Throws `IllegalStateException` if there are 6", x -> {
      nothing(EdgesOfCurveTest::full, STATE, h -> h.quote(0, 100));
      // Its FACTOR would be below 0, but the exception goes ahead.
      nothing(EdgesOfCurveTest::full, STATE, h -> h.quote(50, 1));
    });
    test(45, "Drops the last bond of the CURVE (CHANGE).", x -> {
      change(EdgesOfCurveTest::half, 0, Daycounthouse::unquote);
      x.quote(0, 50);
      x.quote(0, 25);
      x.unquote();
      due(x.factor(1), "1/2");
      index(x, h -> h.factor(2));
      // Another sixth bond instead, and both taken back.
      Daycounthouse y = full();
      y.unquote();
      y.quote(0, 50);
      due(y.factor(6) + " " + y.forward(6), "1/2 2315899/4084101");
      y.undo();
      y.undo();
      due(y.factor(6) + " " + y.forward(6) + " " + y.par(6), "64000000/85766121 1/20 1/20");
      due(y.swap(5, 6) + " " + y.isSound(), "0/1 true");
    });
    test(45, "Returns how many are left.", x -> {
      Daycounthouse y = full();
      for (int left = 5; left >= 0; left--) {
        due(y.unquote(), left);
      }
      state(y, Daycounthouse::unquote);
    });
    test(45, "Throws `IllegalStateException` if there is none", x ->
        nothing(Daycounthouse::new, STATE, Daycounthouse::unquote));
  }

  private static String fraction(BigInteger top, BigInteger bottom) {
    BigInteger divisor = top.gcd(bottom).multiply(BigInteger.valueOf(bottom.signum()));
    return top.divide(divisor) + "/" + bottom.divide(divisor);
  }

  /** Each FACTOR, FORWARD, PAR and SWAP of six like bonds, by the library's great numbers. */
  private static void sixExactly(int coupon, int price) {
    Daycounthouse x = sixQuotes(coupon, price);
    BigInteger c = BigInteger.valueOf(coupon);
    BigInteger all = c.add(BigInteger.valueOf(100));
    // Upper numbers over all ^ k.
    BigInteger bottom = ONE;
    BigInteger before = ONE;
    BigInteger sum = BigInteger.ZERO;
    for (int k = 1; k <= 6; k++) {
      BigInteger top = BigInteger.valueOf(price).multiply(bottom).subtract(c.multiply(sum));
      BigInteger ahead = before.multiply(all);
      bottom = bottom.multiply(all);
      sum = sum.multiply(all).add(top);
      due(x.factor(k), fraction(top, bottom));
      due(x.forward(k), fraction(ahead.subtract(top), top));
      due(x.par(k), fraction(bottom.subtract(top), sum));
      for (int rate : new int[] {0, 1, 50}) {
        BigInteger fixed = sum.multiply(BigInteger.valueOf(rate));
        due(x.swap(rate, k), fraction(bottom.subtract(top).multiply(BigInteger.valueOf(100)).subtract(fixed), bottom));
      }
      before = top;
    }
    due(x.isSound(), true);
  }

  private static void factors() {
    test(46, "FACTOR of 0 years is 1; that of k years: (price - c * the sum of FACTORS of 1 to k - 1) / (100 + "
        + "c).", x -> {
      due(x.factor(0), "1/1");
      sixExactly(50, 200);
      sixExactly(49, 199);
      sixExactly(0, 1);
      sixExactly(0, 200);
      sixExactly(1, 199);
      sixExactly(29, 100);
    });
    test(46, "Returns FACTOR, as a FRACTION.", x -> {
      due(sixQuotes(0, 1).factor(6) + " " + sixQuotes(0, 200).factor(6), "1/100 2/1");
      due(sixQuotes(0, 100).factor(6), "1/1");
    });
    test(46, "Throws `IndexOutOfBoundsException` if k is below 0, or above how many bonds there are", x -> {
      numbers(Daycounthouse::new, 0, "1/1", 0, "1/1", Daycounthouse::factor);
      numbers(EdgesOfCurveTest::half, 0, "1/1", 1, "1/2", Daycounthouse::factor);
      numbers(() -> sixQuotes(0, 50), 0, "1/1", 6, "1/2", Daycounthouse::factor);
    });
    test(47, "FORWARD of k: FACTOR of k - 1 by FACTOR of k, less 1.", x -> {
      x.quote(0, 1);
      x.quote(0, 200);
      x.quote(0, 200);
      x.quote(0, 1);
      due(x.forward(1) + " " + x.forward(2) + " " + x.forward(3) + " " + x.forward(4), "99/1 -199/200 0/1 199/1");
    });
    test(47, "Returns FORWARD, as a FRACTION.", x -> due(half().forward(1), "1/1"));
    test(47, "Throws `IndexOutOfBoundsException` if k is below 1, or above how many bonds there are", x -> {
      noNumber(Daycounthouse::new, Daycounthouse::forward);
      numbers(EdgesOfCurveTest::half, 1, "1/1", 1, "1/1", Daycounthouse::forward);
      numbers(() -> sixQuotes(0, 100), 1, "0/1", 6, "0/1", Daycounthouse::forward);
    });
    test(48, "PAR of k: (1 - FACTOR of k) by the sum of FACTORS of 1 to k.", x -> {
      x.quote(0, 1);
      x.quote(0, 200);
      x.quote(0, 100);
      due(x.par(1) + " " + x.par(2) + " " + x.par(3), "99/1 -100/201 0/1");
    });
    test(48, "Returns PAR, as a FRACTION.", x -> due(full().par(6), "1/20"));
    test(48, "Throws `IndexOutOfBoundsException` if k is below 1, or above how many bonds there are", x -> {
      noNumber(Daycounthouse::new, Daycounthouse::par);
      numbers(EdgesOfCurveTest::half, 1, "1/1", 1, "1/1", Daycounthouse::par);
      numbers(EdgesOfCurveTest::full, 1, "1/20", 6, "1/20", Daycounthouse::par);
    });
    test(49, "SWAP of a rate of r per 100 and k years: 100 * (1 - FACTOR of k) - r * the sum of FACTORS of 1 to "
        + "k.", x -> {
      x.quote(0, 1);
      x.quote(0, 200);
      due(x.swap(0, 1) + " " + x.swap(50, 1) + " " + x.swap(0, 2) + " " + x.swap(50, 2), "99/1 197/2 -100/1 -401/2");
      due(full().swap(5, 6), "0/1");
    });
    test(49, "Returns SWAP, as a FRACTION.", x -> due(half().swap(50, 1), "25/1"));
    test(49, "Throws `IndexOutOfBoundsException` if k is below 1, or above how many bonds there are", x -> {
      noNumber(Daycounthouse::new, (h, k) -> h.swap(0, k));
      noNumber(Daycounthouse::new, (h, k) -> h.swap(51, k));
      numbers(EdgesOfCurveTest::half, 1, "50/1", 1, "50/1", (h, k) -> h.swap(0, k));
      numbers(EdgesOfCurveTest::full, 1, "0/1", 6, "0/1", (h, k) -> h.swap(5, k));
      numbers(EdgesOfCurveTest::full, 1, ARGUMENT, 6, ARGUMENT, (h, k) -> h.swap(-1, k));
    });
    test(49, "Throws `IllegalArgumentException` if rate is not 0 to 50", x ->
        bounds(EdgesOfCurveTest::half, 0, "50/1", 50, "25/1", (h, rate) -> h.swap(rate, 1)));
  }

  private static void split(Daycounthouse x, int sum, int a, int b, int shared, int first) {
    String what = sum + " to " + a + " and " + b + ": ";
    due(what + x.split(sum, a, b, true) + " " + x.split(sum, a, b, false), what + shared + " " + first);
  }

  private static void lenders() {
    test(50, "A sum goes to two lenders, A and B, but to none of them more than is owed to it.", x -> {
      split(x, 0, 0, 0, 0, 0);
      split(x, 999999, 0, 0, 0, 0);
      split(x, 999999, 999999, 0, 999999, 999999);
      split(x, 999999, 0, 999999, 0, 0);
      split(x, 5, 0, 999999, 0, 0);
      split(x, 5, 999999, 0, 5, 5);
      split(x, 0, 999999, 999999, 0, 0);
    });
    test(50, "whether both get their shares: A the floor of sum * a / (a + b), B likewise, and a coin that is left "
        + "goes to A (none of this, if the sum is enough for both); otherwise A comes first", x -> {
      split(x, 1, 1, 1, 1, 1);
      split(x, 1, 1, 2, 1, 1);
      split(x, 2, 1, 2, 1, 1);
      split(x, 3, 1, 2, 1, 1);
      split(x, 4, 1, 2, 1, 1);
      split(x, 2, 3, 3, 1, 2);
      split(x, 3, 3, 3, 2, 3);
      split(x, 5, 3, 3, 3, 3);
      split(x, 6, 3, 3, 3, 3);
      split(x, 7, 3, 3, 3, 3);
      split(x, 999999, 999999, 999999, 500000, 999999);
      split(x, 999998, 999999, 999999, 499999, 999998);
      split(x, 999999, 999999, 1, 999999, 999999);
      split(x, 999998, 999998, 999999, 499999, 999998);
      split(x, 999999, 1, 999999, 1, 1);
      split(x, 999999, 2, 999998, 2, 2);
    });
    test(50, "Returns what A gets.", x -> {
      due(x.split(10, 20, 30, true) + " " + x.split(10, 20, 30, false) + " " + x.split(25, 20, 30, false), "4 10 20");
      due(x.house(10), 0);
    });
    test(50, "Throws `IllegalArgumentException` if sum, a or b is not 0 to 999999", x -> {
      for (boolean isShared : new boolean[] {false, true}) {
        bounds(Daycounthouse::new, 0, 0, 999999, 999999, (h, sum) -> h.split(sum, 999999, 0, isShared));
        bounds(Daycounthouse::new, 0, 0, 999999, 999999, (h, a) -> h.split(999999, a, 0, isShared));
        bounds(Daycounthouse::new, 0, 5, 999999, 5, (h, b) -> h.split(999999, 5, b, false));
        bounds(Daycounthouse::new, 0, 0, 999999, 0, (h, b) -> h.split(999999, 0, b, isShared));
        argument(x, h -> h.split(MIN, MAX, MIN, isShared));
      }
    });
  }

  /** Writes on the SLIP; all SIGNS are known and there is room. */
  private static Daycounthouse typed(Daycounthouse x, String text) {
    for (int i = 0; i < text.length(); i++) {
      x.type(SIGNS.indexOf(text.charAt(i)));
    }
    return x;
  }

  private static int fault(String text) {
    return typed(new Daycounthouse(), text).fault();
  }

  private static Daycounthouse fullSlip() {
    return typed(new Daycounthouse(), "L999999,9999%e");
  }

  private static void slips() {
    test(51, "The SLIP is a row of at most 14 SIGNS: 0 to 9 digits, 10 \"L\", 11 \"B\", 12 \",\", 13 \"%\", 14 \"a\", "
        + "15 \"p\", 16 \"e\".", x -> {
      for (int many = 1; many <= 14; many++) {
        due(x.type(many + 2), many);
      }
      state(x, h -> h.type(0));
      due(x.wipe(), 14);
      due(x.type(0), 1);
    });
    test(51, "Writes a SIGN on the SLIP.", x -> {
      due(x.fault(), 0);
      x.type(11);
      due(x.fault() + " " + x.house(10), "1 0");
    });
    test(51, "Returns how many stand there.", x -> due(x.type(16) + " " + x.type(16), "1 2"));
    test(51, "Throws `IllegalArgumentException` if sign is not 0 to 16", x -> {
      bounds(Daycounthouse::new, 0, 1, 16, 1, Daycounthouse::type);
      bounds(EdgesOfCurveTest::fullSlip, 0, STATE, 16, STATE, Daycounthouse::type);
      argument(x, h -> h.type(17));
      due(x.wipe(), 0);
    });
    test(51, "Throws `IllegalStateException` if there are 14", x -> {
      nothing(EdgesOfCurveTest::fullSlip, STATE, h -> h.type(5));
      Daycounthouse y = fullSlip();
      state(y, h -> h.type(5));
      due(y.fault() + " " + y.wipe(), "-1 14");
    });
    test(52, "The SLIP is empty then.", x -> {
      Daycounthouse y = fullSlip();
      y.wipe();
      due(y.fault() + " " + y.wipe() + " " + y.type(5), "0 0 1");
      due(y.house(10), 0);
    });
    test(52, "Returns how many stood there.", x -> due(x.wipe() + " " + fullSlip().wipe(), "0 14"));
  }

  /** By the library's patterns: the place of the first SIGN with which no terms can begin. */
  private static int faultOf(String text) {
    String loan = "L([1-9]\\d{0,5}(,(\\d{1,4}(%[ape]?)?)?)?)?";
    String bond = "B([1-9]\\d{0,5}(,(\\d{1,4}%?)?)?)?";
    for (int i = 0; i < text.length(); i++) {
      if (!text.substring(0, i + 1).matches(loan + "|" + bond)) {
        return i;
      }
    }
    return text.matches("L.*[ape]|B.*%") ? NONE : text.length();
  }

  private static void faults() {
    test(53, "Terms: \"L\", an AMOUNT, \",\", a rate, \"%\", and one of \"a\" (kind 0), \"p\" (1), \"e\" (2); or "
        + "\"B\", a FACE, \",\", a coupon, \"%\".", x -> {
      for (String text : new String[] {"L1,0%a", "L999999,9999%p", "L10,0000%e", "B1,0%", "B999999,9999%"}) {
        due(fault(text), NONE);
        for (int length = 0; length < text.length(); length++) {
          due(fault(text.substring(0, length)), length);
        }
      }
    });
    test(53, "An AMOUNT or FACE has 1 to 6 digits, the first one not 0, a rate or coupon 1 to 4 digits.", x -> {
      for (String head : new String[] {"L", "B"}) {
        due(fault(head + ",") + " " + fault(head + "0") + " " + fault(head + "1,%"), "1 1 3");
        due(fault(head + "100000,") + " " + fault(head + "1000000"), "8 7");
        due(fault(head + "1,0000") + " " + fault(head + "1,00000"), "7 7");
        due(fault(head + "1,99999") + " " + fault(head + "9999999"), "7 7");
      }
    });
    test(53, "FAULT: the place (from 0 on) of the first SIGN that cannot stand there; how many SIGNS there are, if one "
        + "is missing; NONE otherwise.", x -> {
      due(x.fault(), 0);
      due(fault("B1,0%a") + " " + fault("L1,0%aa") + " " + fault("L1,0%,"), "5 6 5");
      due(fault("LLLLLLLLLLLLLL") + " " + fault("00000000000000"), "1 0");
      due(fault("B999999,9999%%") + " " + fault("L999999,9999%%"), "13 13");
      for (String text : new String[] {"L1,0%a", "L999999,9999%p", "L907,05%e", "B1,0%", "B999999,9999%", "B10,050%"}) {
        for (int place = 0; place <= text.length() && place < 14; place++) {
          for (int sign = 0; sign < 17; sign++) {
            String rest = place < text.length() ? text.substring(place + 1) : "";
            String other = text.substring(0, place) + SIGNS.charAt(sign) + rest;
            due(other + " " + fault(other), other + " " + faultOf(other));
          }
        }
      }
    });
    test(53, "Returns FAULT of the SLIP.", x -> {
      due(fault("") + " " + fault("a") + " " + fault("L"), "0 0 1");
      due(fullSlip().fault(), NONE);
    });
  }

  /** Two months, and so many LOANS and BONDS. */
  private static Daycounthouse ready(int loans, int bonds) {
    Daycounthouse x = new Daycounthouse();
    x.schedule(0, 60, 1, false, false, 0);
    for (int i = 0; i < loans; i++) {
      x.loan(5, 5, 0, 0);
    }
    for (int i = 0; i < bonds; i++) {
      x.bond(5, 5);
    }
    return x;
  }

  private static Supplier<Daycounthouse> ready(int loans, int bonds, String text) {
    return () -> typed(ready(loans, bonds), text);
  }

  private static void terms() {
    test(54, "Makes what the SLIP tells (it stays there): a LOAN with the count 0, or a BOND (CHANGE, if it is "
        + "done).", x -> {
      change(ready(0, 0, "L999999,9999%e"), 0, Daycounthouse::terms);
      change(ready(2, 3, "L1,0%a"), 2, Daycounthouse::terms);
      change(ready(3, 2, "B999999,9999%"), 2, Daycounthouse::terms);
      Daycounthouse y = ready(0, 0, "L999999,9999%e").get();
      y.terms();
      Daycounthouse z = ready(0, 0);
      z.loan(999999, 9999, 2, 0);
      for (int what = 0; what <= 5; what++) {
        due(y.planned(0, 1, what) + " " + y.all(0, what), z.planned(0, 1, what) + " " + z.all(0, what));
      }
      due(y.fault() + " " + y.wipe(), "-1 14");
      Daycounthouse w = ready(0, 0, "B999999,9999%").get();
      w.terms();
      w.terms();
      due(w.house(4) + " " + w.flow(1, 2, 1) + " " + w.flow(1, 2, 2), "2 83325 999999");
      // An AMOUNT of 40000 by a rate of 360: 31 days of 360, and three kinds.
      String[] kinds = {"a", "p", "e"};
      int[] parts = {20090 - 124, 20000, 0};
      for (int kind = 0; kind < 3; kind++) {
        Daycounthouse v = ready(0, 0, "L40000,360%" + kinds[kind]).get();
        v.terms();
        due(v.planned(0, 1, 1) + " " + v.planned(0, 1, 2), "124 " + parts[kind]);
      }
    });
    test(54, "Returns its number; -9 with a FAULT.", x -> {
      String[] faulty = {"", "0", "a", "L", "B", "L5,5%", "B5,5", "L0", "L1234567", "B5,5%a", "L5,5%aa"};
      for (String text : faulty) {
        refused(ready(0, 0, text), Daycounthouse::terms);
      }
      // Full are the others, or what the first SIGN does not tell.
      refused(ready(3, 3, ""), Daycounthouse::terms);
      refused(ready(3, 3, "5"), Daycounthouse::terms);
      refused(ready(3, 2, "B5,5"), Daycounthouse::terms);
      refused(ready(2, 3, "L5,5%"), Daycounthouse::terms);
    });
    test(54, "Throws `IllegalStateException` if there is no ROW, or there are 3 LOANS, or 3 BONDS, by the first SIGN "
        + "(of an empty SLIP, or with another first SIGN, if there is no ROW)", x -> {
      for (String text : new String[] {"", "5", "%", "L", "B", "L5,5%a", "B5,5%", "B5,5%%"}) {
        nothing(() -> typed(new Daycounthouse(), text), STATE, Daycounthouse::terms);
      }
      for (String text : new String[] {"L", "L5,5%a", "L5,5%%", "LB"}) {
        nothing(ready(3, 0, text), STATE, Daycounthouse::terms);
      }
      for (String text : new String[] {"B", "B5,5%", "B5,5%%", "BL"}) {
        nothing(ready(0, 3, text), STATE, Daycounthouse::terms);
      }
      due(ready(3, 0, "B5,5%").get().terms() + " " + ready(0, 3, "L5,5%p").get().terms(), "0 0");
      // An empty SLIP has no first SIGN, whatever stood there ahead.
      for (String text : new String[] {"L5,5%a", "B5,5%"}) {
        Daycounthouse z = ready(3, 3, text).get();
        state(z, Daycounthouse::terms);
        z.wipe();
        still(z, REFUSED, Daycounthouse::terms);
      }
      Daycounthouse y = ready(2, 0, "L5,5%p").get();
      due(y.terms(), 2);
      state(y, Daycounthouse::terms);
    });
  }

  private static void takenBack() {
    test(54, "UNDO: the last 10 of the calls that are said to CHANGE (also if nothing is other then) can be taken "
        + "back, one by one.", x -> {
      // Of the calls of this part just quote, unquote and terms, if they are done.
      x.schedule(0, 60, 1, false, false, 0);
      x.quote(5, 100);
      x.quote(5, 100);
      x.unquote();
      typed(x, "B5,5%").terms();
      x.wipe();
      typed(x, "L5,5%").terms();
      x.quote(50, 1);
      x.split(5, 5, 5, true);
      due(x.house(10) + " " + x.house(5) + " " + x.house(4), "5 1 1");
      due(x.undo() + " " + x.house(4), "4 0");
      due(x.undo() + " " + x.house(5) + " " + x.par(2), "3 2 1/20");
      due(x.undo() + " " + x.house(5), "2 1");
      due(x.undo() + " " + x.house(5), "1 0");
      due(x.undo() + " " + x.row() + " " + x.wipe(), "0 - 5");
    });
  }

  public static void main(String[] args) {
    quotes();
    factors();
    lenders();
    slips();
    faults();
    terms();
    takenBack();
    finish(44, 54, 5);
  }

  private EdgesOfCurveTest() {}
}
