import java.math.BigInteger;
import java.time.LocalDate;
import java.time.YearMonth;
import java.time.temporal.ChronoUnit;
import java.util.ArrayList;
import java.util.Arrays;
import java.util.Collections;
import java.util.List;
import java.util.NoSuchElementException;
import java.util.TreeMap;
import java.util.TreeSet;

/**
 * The document told once more, slowly and by other means (dates of the library, fractions of any size, a ledger that
 * walks over all days), so that Daycounthouse and this one err together as seldom as can be.
 */
public final class SlowHouse {
  static final int NONE = -1;
  static final LocalDate ZERO = LocalDate.of(2000, 1, 1);
  static final int LAST = 36524;
  static final BigInteger MILLION = BigInteger.valueOf(1000000);

  record Frac(BigInteger top, BigInteger bottom) implements Comparable<Frac> {
    static Frac of(long top, long bottom) {
      return of(BigInteger.valueOf(top), BigInteger.valueOf(bottom));
    }

    static Frac of(BigInteger top, BigInteger bottom) {
      BigInteger sign = BigInteger.valueOf(bottom.signum());
      BigInteger gcd = top.gcd(bottom).multiply(sign);
      return new Frac(top.divide(gcd), bottom.divide(gcd));
    }

    static Frac of(long whole) {
      return of(whole, 1);
    }

    Frac plus(Frac o) {
      return of(top.multiply(o.bottom).add(o.top.multiply(bottom)), bottom.multiply(o.bottom));
    }

    Frac minus(Frac o) {
      return plus(o.times(of(-1)));
    }

    Frac times(Frac o) {
      return of(top.multiply(o.top), bottom.multiply(o.bottom));
    }

    Frac by(Frac o) {
      return of(top.multiply(o.bottom), bottom.multiply(o.top));
    }

    Frac power(int n) {
      return new Frac(top.pow(n), bottom.pow(n));
    }

    BigInteger floor() {
      BigInteger[] parts = top.divideAndRemainder(bottom);
      return parts[1].signum() < 0 ? parts[0].subtract(BigInteger.ONE) : parts[0];
    }

    BigInteger rounded(int mode) {
      BigInteger down = floor();
      Frac rest = minus(new Frac(down, BigInteger.ONE));
      int half = rest.compareTo(of(1, 2));
      boolean isUp = switch (mode) {
        case 0 -> false;
        case 1 -> half >= 0;
        case 2 -> half > 0 || (half == 0 && down.testBit(0));
        default -> rest.top.signum() > 0;
      };
      return isUp ? down.add(BigInteger.ONE) : down;
    }

    int roundedInt(int mode) {
      return rounded(mode).intValueExact();
    }

    @Override
    public int compareTo(Frac o) {
      return top.multiply(o.bottom).compareTo(o.top.multiply(bottom));
    }

    @Override
    public String toString() {
      return top + "/" + bottom;
    }
  }

  record Feast(boolean isMoving, int month, int day) {
    boolean isOn(LocalDate date) {
      return isMoving ? easter(date.getYear()).plusDays(day).equals(date)
          : date.getMonthValue() == month && date.getDayOfMonth() == day;
    }
  }

  static final class Loan implements Cloneable {
    int amount, rate, kind, count, free, months;
    List<Integer> row;
    TreeMap<Integer, Integer> early = new TreeMap<>();
    TreeMap<Integer, Integer> rates = new TreeMap<>();
    TreeMap<Integer, Integer> paid = new TreeMap<>();

    Loan copy() {
      try {
        Loan l = (Loan) clone();
        l.early = new TreeMap<>(early);
        l.rates = new TreeMap<>(rates);
        l.paid = new TreeMap<>(paid);
        return l;
      } catch (CloneNotSupportedException e) {
        throw new IllegalStateException(e);
      }
    }
  }

  static final class Bond implements Cloneable {
    int face, coupon, ex, months;
    List<Integer> row;
    TreeMap<Integer, Integer> sunk = new TreeMap<>();
    TreeMap<Integer, Integer> calls = new TreeMap<>();
    TreeMap<Integer, Integer> coupons = new TreeMap<>();
    TreeMap<Integer, Integer> indexes = new TreeMap<>();

    Bond copy() {
      try {
        Bond b = (Bond) clone();
        b.sunk = new TreeMap<>(sunk);
        b.calls = new TreeMap<>(calls);
        b.coupons = new TreeMap<>(coupons);
        b.indexes = new TreeMap<>(indexes);
        return b;
      } catch (CloneNotSupportedException e) {
        throw new IllegalStateException(e);
      }
    }
  }

  static final class State {
    List<Feast> feasts = new ArrayList<>();
    int mode = 1, fee, grace, order, months;
    TreeMap<Integer, Integer> steps = new TreeMap<>();
    List<Integer> row = List.of();
    List<Loan> loans = new ArrayList<>();
    List<Bond> bonds = new ArrayList<>();
    List<int[]> quotes = new ArrayList<>();

    State copy() {
      State s = new State();
      s.feasts.addAll(feasts);
      s.mode = mode;
      s.fee = fee;
      s.grace = grace;
      s.order = order;
      s.months = months;
      s.steps.putAll(steps);
      s.row = row;
      loans.forEach(l -> s.loans.add(l.copy()));
      bonds.forEach(b -> s.bonds.add(b.copy()));
      s.quotes.addAll(quotes);
      return s;
    }
  }

  private State s = new State();
  private final List<State> past = new ArrayList<>();
  private final List<Integer> slip = new ArrayList<>();
  private int knocks;

  private static void must(boolean isSo) {
    if (!isSo) throw new IllegalArgumentException();
  }

  private static void mustStand(boolean isSo) {
    if (!isSo) throw new IllegalStateException();
  }

  private static void mustBeThere(boolean isSo) {
    if (!isSo) throw new IndexOutOfBoundsException();
  }

  private static boolean isDay(int day) {
    return day >= 0 && day <= LAST;
  }

  private void keep() {
    past.add(s.copy());
    if (past.size() > 10) past.remove(0);
  }

  static LocalDate dateOf(int day) {
    return ZERO.plusDays(day);
  }

  static int dayOf(LocalDate date) {
    long day = ChronoUnit.DAYS.between(ZERO, date);
    return day < 0 || day > LAST ? NONE : (int) day;
  }

  // The reckoning of Meeus, Jones and Butcher, which is none of the document's own steps.
  static LocalDate easter(int year) {
    int a = year % 19, b = year / 100, c = year % 100, d = b / 4, e = b % 4, f = (b + 8) / 25, g = (b - f + 1) / 3;
    int h = (19 * a + b - d - g + 15) % 30, i = c / 4, k = c % 4, l = (32 + 2 * e + 2 * i - h - k) % 7;
    int m = (a + 11 * h + 22 * l) / 451, n = h + l - 7 * m + 114;
    return LocalDate.of(year, n / 31, n % 31 + 1);
  }

  public int day(int year, int month, int day) {
    if (year < 2000 || year > 2099 || month < 1 || month > 12 || day < 1) return NONE;
    return day > YearMonth.of(year, month).lengthOfMonth() ? NONE : dayOf(LocalDate.of(year, month, day));
  }

  public String date(int day) {
    must(isDay(day));
    LocalDate d = dateOf(day);
    return d.getYear() + "-" + d.getMonthValue() + "-" + d.getDayOfMonth();
  }

  public int weekDay(int day) {
    must(isDay(day));
    return dateOf(day).getDayOfWeek().getValue() % 7;
  }

  public int feast(int month, int day) {
    must(month >= 1 && month <= 12 && day >= 1 && day <= 31);
    mustStand(s.feasts.size() < 6);
    keep();
    s.feasts.add(new Feast(false, month, day));
    return s.feasts.size();
  }

  public int moving(int behind) {
    must(behind >= -60 && behind <= 60);
    mustStand(s.feasts.size() < 6);
    keep();
    s.feasts.add(new Feast(true, 0, behind));
    return s.feasts.size();
  }

  public int unfeast() {
    mustStand(!s.feasts.isEmpty());
    keep();
    s.feasts.remove(s.feasts.size() - 1);
    return s.feasts.size();
  }

  private boolean bank(int day) {
    LocalDate d = dateOf(day);
    return d.getDayOfWeek().getValue() < 6 && s.feasts.stream().noneMatch(f -> f.isOn(d));
  }

  public boolean isBank(int day) {
    must(isDay(day));
    return bank(day);
  }

  private int search(int day, int by) {
    while (isDay(day) && !bank(day)) day += by;
    return isDay(day) ? day : NONE;
  }

  private static boolean isLikeMonth(int a, int b) {
    return YearMonth.from(dateOf(a)).equals(YearMonth.from(dateOf(b)));
  }

  private int rolled(int day, int how) {
    int on = search(day, 1), back = search(day, -1);
    return switch (how) {
      case 0 -> day;
      case 1 -> on;
      case 2 -> back;
      case 3 -> on == NONE || !isLikeMonth(on, day) ? back : on;
      default -> back == NONE || !isLikeMonth(back, day) ? on : back;
    };
  }

  public int roll(int day, int how) {
    must(isDay(day) && how >= 0 && how <= 4);
    return rolled(day, how);
  }

  private static int laterBy(int day, int months, boolean isKept) {
    LocalDate d = dateOf(day), to = d.plusMonths(months);
    if (isKept && d.getDayOfMonth() == d.lengthOfMonth()) to = to.withDayOfMonth(to.lengthOfMonth());
    return dayOf(to);
  }

  public int later(int day, int months, boolean isKept) {
    must(isDay(day) && months >= -1200 && months <= 1200);
    return laterBy(day, months, isKept);
  }

  private int bankDays(int a, int b) {
    int n = 0;
    for (int d = a; d < b; d++) if (bank(d)) n++;
    return n;
  }

  public int banks(int a, int b) {
    must(isDay(a) && isDay(b) && a <= b);
    return bankDays(a, b);
  }

  public int round(int mode) {
    must(mode >= 0 && mode <= 3);
    keep();
    int before = s.mode;
    s.mode = mode;
    return before;
  }

  private Frac shareOf(int a, int b, int count) {
    LocalDate from = dateOf(a), to = dateOf(b);
    switch (count) {
      case 0: return Frac.of(b - a, 360);
      case 1: return Frac.of(b - a, 365);
      case 2: {
        Frac sum = Frac.of(0);
        for (LocalDate d = from; d.isBefore(to); ) {
          LocalDate end = LocalDate.of(d.getYear() + 1, 1, 1);
          if (end.isAfter(to)) end = to;
          sum = sum.plus(Frac.of(ChronoUnit.DAYS.between(d, end), d.lengthOfYear()));
          d = end;
        }
        return sum;
      }
      case 3:
      case 4: {
        int da = from.getDayOfMonth(), db = to.getDayOfMonth();
        if (da == 31) da = 30;
        if (db == 31 && (count == 4 || from.getDayOfMonth() >= 30)) db = 30;
        return Frac.of(360L * (to.getYear() - from.getYear()) + 30L * (to.getMonthValue() - from.getMonthValue())
            + db - da, 360);
      }
      case 5: {
        int n = 0;
        for (LocalDate d = from; d.isBefore(to); d = d.plusDays(1)) {
          if (d.getMonthValue() != 2 || d.getDayOfMonth() != 29) n++;
        }
        return Frac.of(n, 365);
      }
      case 6: return Frac.of(bankDays(a, b), 252);
      default: {
        int m = 0;
        while (laterBy(a, m + 1, false) != NONE && laterBy(a, m + 1, false) <= b) m++;
        return Frac.of(m, 12).plus(Frac.of(b - laterBy(a, m, false), 360));
      }
    }
  }

  public String share(int a, int b, int count) {
    must(isDay(a) && isDay(b) && a <= b && count >= 0 && count <= 7);
    return shareOf(a, b, count).toString();
  }

  public int simple(int amount, int rate, int a, int b, int count) {
    must(amount >= 0 && amount <= 999999 && rate >= 0 && rate <= 9999);
    must(isDay(a) && isDay(b) && a <= b && count >= 0 && count <= 7);
    return Frac.of((long) amount * rate, 10000).times(shareOf(a, b, count)).roundedInt(s.mode);
  }

  public String grown(int amount, int rate, int times, int perYear, boolean isEach) {
    must(amount >= 0 && amount <= 999999 && rate >= 0 && rate <= 9999);
    must(times >= 0 && times <= 60 && perYear >= 1 && perYear <= 365);
    Frac growth = Frac.of(1).plus(Frac.of(rate, 10000L * perYear));
    Frac sum = Frac.of(amount);
    for (int i = 0; i < times; i++) {
      sum = sum.times(growth);
      if (isEach) sum = new Frac(sum.rounded(s.mode), BigInteger.ONE);
    }
    return sum.rounded(s.mode).toString();
  }

  public int step(int day, int rate) {
    must(isDay(day) && rate >= -1 && rate <= 9999);
    mustStand(rate == NONE || s.steps.containsKey(day) || s.steps.size() < 8);
    keep();
    Integer before = rate == NONE ? s.steps.remove(day) : s.steps.put(day, rate);
    return before == null ? NONE : before;
  }

  public int stepped(int amount, int a, int b, int count) {
    must(amount >= 0 && amount <= 999999 && isDay(a) && isDay(b) && a <= b && count >= 0 && count <= 7);
    TreeSet<Integer> cuts = new TreeSet<>(s.steps.keySet());
    cuts.add(a);
    cuts.add(b);
    Frac sum = Frac.of(0);
    for (int from : cuts.subSet(a, b)) {
      var step = s.steps.floorEntry(from);
      long rate = step == null ? 0 : step.getValue();
      sum = sum.plus(Frac.of(amount * rate, 10000).times(shareOf(from, cuts.higher(from), count)));
    }
    return sum.roundedInt(s.mode);
  }

  public int schedule(int from, int to, int months, boolean isFirst, boolean isKept, int how) {
    must(isDay(from) && isDay(to) && from < to && months >= 1 && months <= 24 && how >= 0 && how <= 4);
    TreeSet<Integer> days = new TreeSet<>(List.of(from, to));
    for (int k = 0; k <= 1300; k++) {
      int day = isFirst ? laterBy(to, -k * months, isKept) : laterBy(from, k * months, isKept);
      if (day != NONE && day > from && day < to) days.add(day);
    }
    TreeSet<Integer> row = new TreeSet<>();
    for (int day : days) row.add(rolled(day, how));
    if (row.contains(NONE) || row.size() < 2 || row.size() > 25) return -9;
    keep();
    s.row = List.copyOf(row);
    s.months = months;
    return row.size() - 1;
  }

  public String row() {
    return s.row.isEmpty() ? "-" : String.join(" ", s.row.stream().map(String::valueOf).toList());
  }

  private static int find(List<Integer> row, int day) {
    for (int k = 1; k < row.size(); k++) if (row.get(k - 1) <= day && day < row.get(k)) return k;
    return NONE;
  }

  public int period(int day) {
    must(isDay(day));
    return find(s.row, day);
  }

  private int addLoan(int amount, int rate, int kind, int count) {
    keep();
    Loan l = new Loan();
    l.amount = amount;
    l.rate = rate;
    l.kind = kind;
    l.count = count;
    l.row = s.row;
    l.months = s.months;
    s.loans.add(l);
    return s.loans.size() - 1;
  }

  public int loan(int amount, int rate, int kind, int count) {
    must(amount >= 1 && amount <= 999999 && rate >= 0 && rate <= 9999);
    must(kind >= 0 && kind <= 2 && count >= 0 && count <= 7);
    mustStand(!s.row.isEmpty() && s.loans.size() < 3);
    return addLoan(amount, rate, kind, count);
  }

  private Loan loanAt(int i) {
    mustBeThere(i >= 0 && i < s.loans.size());
    return s.loans.get(i);
  }

  private static void mustHave(List<Integer> row, int k) {
    mustBeThere(k >= 1 && k < row.size());
  }

  private static int told(TreeMap<Integer, Integer> map, int k, int value, int none) {
    Integer before = value == none ? map.remove(k) : map.put(k, value);
    return before == null ? none : before;
  }

  // The maps are copied by keep, so that the object that is changed must be asked for behind it.
  public int holiday(int loan, int many) {
    Loan l = loanAt(loan);
    must(many >= 0 && many <= l.row.size() - 2);
    keep();
    int before = l.free;
    l.free = many;
    return before;
  }

  public int early(int loan, int k, int sum) {
    mustHave(loanAt(loan).row, k);
    must(sum >= 0 && sum <= 999999);
    keep();
    return told(loanAt(loan).early, k, sum, 0);
  }

  public int change(int loan, int k, int rate) {
    mustHave(loanAt(loan).row, k);
    must(rate >= -1 && rate <= 9999);
    keep();
    return told(loanAt(loan).rates, k, rate, NONE);
  }

  /** Line by line: end, interest, part, early, rest behind, rate; at place 0 just the rest. */
  private int[][] plan(Loan l) {
    int n = l.row.size() - 1;
    int[][] lines = new int[n + 1][6];
    lines[0][4] = l.amount;
    int like = 0;
    for (int k = 1; k <= n; k++) {
      int rest = lines[k - 1][4], rate = rateAt(l, k), left = n - k + 1;
      int interest = Frac.of((long) rest * rate, 10000).times(shareOf(l.row.get(k - 1), l.row.get(k), l.count))
          .roundedInt(s.mode);
      boolean isFirst = k == l.free + 1;
      boolean isAnew = k > l.free + 1 && (rate != rateAt(l, k - 1) || l.early.containsKey(k - 1));
      if ((isFirst || isAnew) && l.kind < 2) like = likeOf(l, rest, rate, left);
      int part = k <= l.free ? 0 : l.kind == 0 ? like - interest : l.kind == 1 ? like : 0;
      part = Math.min(Math.max(part, 0), rest);
      if (k == n) part = rest;
      int early = Math.min(l.early.getOrDefault(k, 0), rest - part);
      lines[k] = new int[] {l.row.get(k), interest, part, early, rest - part - early, rate};
    }
    return lines;
  }

  private static int rateAt(Loan l, int k) {
    var told = l.rates.floorEntry(k);
    return told == null ? l.rate : told.getValue();
  }

  private int likeOf(Loan l, int rest, int rate, int left) {
    Frac r = Frac.of((long) rate * l.months, 120000);
    if (l.kind == 1 || r.top().signum() == 0) return Frac.of(rest, left).roundedInt(s.mode);
    Frac power = Frac.of(1).plus(r).power(left);
    return Frac.of(rest).times(r).times(power).by(power.minus(Frac.of(1))).roundedInt(s.mode);
  }

  public int planned(int loan, int k, int what) {
    mustHave(loanAt(loan).row, k);
    must(what >= 0 && what <= 5);
    return plan(loanAt(loan))[k][what];
  }

  public int all(int loan, int what) {
    Loan l = loanAt(loan);
    must(what >= 0 && what <= 5);
    return total(plan(l), what);
  }

  private static int total(int[][] lines, int what) {
    int interest = 0, back = 0, most = 0, open = 0;
    for (int k = 1; k < lines.length; k++) {
      interest += lines[k][1];
      back += lines[k][2] + lines[k][3];
      most = Math.max(most, lines[k][1] + lines[k][2]);
      if (lines[k - 1][4] > 0) open++;
    }
    return new int[] {interest, back, interest + back, most, open, lines.length - 1}[what];
  }

  /** The sum of sums.get(i) / ((1 + w * n / 1000000) * (1 + n / 1000000)^i). */
  private static Frac worth(List<Integer> sums, Frac w, int n) {
    BigInteger top = BigInteger.ZERO, growth = BigInteger.valueOf(1000000L + n);
    int m = sums.size();
    for (int i = 0; i < m; i++) {
      top = top.add(BigInteger.valueOf(sums.get(i)).multiply(MILLION.pow(i)).multiply(growth.pow(m - i)));
    }
    Frac first = Frac.of(1).plus(w.times(Frac.of(n, 1000000)));
    return new Frac(top.multiply(first.bottom()), growth.pow(m).multiply(first.top()));
  }

  private static int greatest(List<Integer> sums, Frac w, long price) {
    Frac p = Frac.of(price);
    int low = -1, high = 999999;
    while (low < high) {
      int mid = (low + high + 1) >> 1;
      if (worth(sums, w, mid).compareTo(p) >= 0) low = mid;
      else high = mid - 1;
    }
    return low;
  }

  private int rate(Loan l) {
    int[][] lines = plan(l);
    List<Integer> sums = new ArrayList<>();
    for (int k = 1; k < lines.length; k++) sums.add(lines[k][1] + lines[k][2] + lines[k][3]);
    return greatest(sums, Frac.of(1), l.amount);
  }

  public int rateOf(int loan) {
    return rate(loanAt(loan));
  }

  public int late(int fee, int grace) {
    must(fee >= 0 && fee <= 9999 && grace >= 0 && grace <= 60);
    keep();
    int before = s.fee;
    s.fee = fee;
    s.grace = grace;
    return before;
  }

  public int order(int order) {
    must(order >= 0 && order <= 5);
    keep();
    int before = s.order;
    s.order = order;
    return before;
  }

  public int pay(int loan, int day, int sum) {
    Loan l = loanAt(loan);
    must(isDay(day) && day >= l.row.get(0) && sum >= 1 && sum <= 999999);
    mustStand(l.paid.containsKey(day) || l.paid.size() < 20);
    keep();
    return l.paid.merge(day, sum, Integer::sum);
  }

  /** Fees, interest, parts owed, purse, paid, all fees due, all else due: at the end of that day. */
  private int[] ledger(Loan l, int day) {
    String[] orders = {"012", "021", "102", "120", "201", "210"};
    int[] owed = new int[3];
    int purse = 0, paid = 0, fees = 0, due = 0, settled = 0;
    int[][] lines = plan(l);
    for (int d = l.row.get(0); d <= day; d++) {
      for (int k = 1; k < lines.length; k++) {
        if (lines[k][0] == d) {
          owed[1] += lines[k][1];
          owed[2] += lines[k][2];
          due += lines[k][1] + lines[k][2];
        }
      }
      int upTo = 0;
      for (int k = 1; k < lines.length; k++) {
        upTo += lines[k][1] + lines[k][2];
        if (lines[k][0] + s.grace + 1 == d && settled < upTo) {
          owed[0] += s.fee;
          fees += s.fee;
        }
      }
      int today = l.paid.getOrDefault(d, 0);
      purse += today;
      paid += today;
      for (char c : orders[s.order].toCharArray()) {
        int sum = Math.min(purse, owed[c - '0']);
        purse -= sum;
        owed[c - '0'] -= sum;
        if (c != '0') settled += sum;
      }
    }
    return new int[] {owed[0], owed[1], owed[2], purse, paid, fees, due};
  }

  public int owes(int loan, int day, int what) {
    Loan l = loanAt(loan);
    must(isDay(day) && what >= 0 && what <= 5);
    return ledger(l, day)[what];
  }

  private int addBond(int face, int coupon) {
    keep();
    Bond b = new Bond();
    b.face = face;
    b.coupon = coupon;
    b.row = s.row;
    b.months = s.months;
    s.bonds.add(b);
    return s.bonds.size() - 1;
  }

  public int bond(int face, int coupon) {
    must(face >= 1 && face <= 999999 && coupon >= 0 && coupon <= 9999);
    mustStand(!s.row.isEmpty() && s.bonds.size() < 3);
    return addBond(face, coupon);
  }

  private Bond bondAt(int i) {
    mustBeThere(i >= 0 && i < s.bonds.size());
    return s.bonds.get(i);
  }

  public int sink(int bond, int k, int sum) {
    mustHave(bondAt(bond).row, k);
    must(sum >= 0 && sum <= 999999);
    keep();
    return told(bondAt(bond).sunk, k, sum, 0);
  }

  public int call(int bond, int k, int percent) {
    mustBeThere(k >= 1 && k < bondAt(bond).row.size() - 1);
    must(percent == NONE || percent >= 50 && percent <= 200);
    keep();
    return told(bondAt(bond).calls, k, percent, NONE);
  }

  public int reset(int bond, int k, int coupon) {
    mustHave(bondAt(bond).row, k);
    must(coupon >= -1 && coupon <= 9999);
    keep();
    return told(bondAt(bond).coupons, k, coupon, NONE);
  }

  public int link(int bond, int k, int index) {
    mustHave(bondAt(bond).row, k);
    must(index == NONE || index >= 1 && index <= 999);
    keep();
    return told(bondAt(bond).indexes, k, index, NONE);
  }

  public int ex(int bond, int days) {
    Bond b = bondAt(bond);
    must(days >= 0 && days <= 60);
    keep();
    int before = b.ex;
    b.ex = days;
    return before;
  }

  /** Told to tests only. */
  int periodsOfBond(int bond) {
    return bondAt(bond).row.size() - 1;
  }

  private static int indexAt(Bond b, int k) {
    var told = b.indexes.floorEntry(k);
    return told == null ? 100 : told.getValue();
  }

  /** Line by line: end, coupon sum, paid back, both, rest behind. */
  private int[][] lines(Bond b) {
    int n = b.row.size() - 1;
    int[][] lines = new int[n + 1][5];
    lines[0][4] = b.face;
    for (int k = 1; k <= n; k++) {
      int rest = lines[k - 1][4];
      var told = b.coupons.floorEntry(k);
      Frac index = Frac.of(indexAt(b, k), 100);
      Frac coupon = Frac.of(told == null ? b.coupon : told.getValue(), 10000);
      int sum = Frac.of(rest).times(coupon).times(Frac.of(b.months, 12)).times(index).roundedInt(s.mode);
      int back = k == n ? rest : Math.min(rest, b.sunk.getOrDefault(k, 0));
      int paid = Frac.of(back).times(index).roundedInt(s.mode);
      lines[k] = new int[] {b.row.get(k), sum, paid, sum + paid, rest - back};
    }
    return lines;
  }

  public int flow(int bond, int k, int what) {
    Bond b = bondAt(bond);
    mustHave(b.row, k);
    must(what >= 0 && what <= 4);
    return lines(b)[k][what];
  }

  private static boolean isEx(Bond b, int day) {
    return b.row.get(find(b.row, day)) - day <= b.ex;
  }

  private static Frac w(Bond b, int day) {
    int k = find(b.row, day), end = b.row.get(k);
    return Frac.of(end - day, end - b.row.get(k - 1));
  }

  private List<Integer> sums(Bond b, int day) {
    int[][] lines = lines(b);
    int first = find(b.row, day);
    List<Integer> sums = new ArrayList<>();
    for (int k = first; k < lines.length; k++) sums.add(k == first && isEx(b, day) ? lines[k][2] : lines[k][3]);
    return sums;
  }

  public String accrued(int bond, int day) {
    Bond b = bondAt(bond);
    must(find(b.row, day) != NONE);
    Frac coupon = Frac.of(lines(b)[find(b.row, day)][1]);
    Frac w = w(b, day);
    return (isEx(b, day) ? Frac.of(0).minus(w.times(coupon)) : Frac.of(1).minus(w).times(coupon)).toString();
  }

  private int priceOf(Bond b, int day, int n) {
    return worth(sums(b, day), w(b, day), n).roundedInt(s.mode);
  }

  public int price(int bond, int day, int yield) {
    Bond b = bondAt(bond);
    must(find(b.row, day) != NONE && yield >= 0 && yield <= 999999);
    return priceOf(b, day, yield);
  }

  public int yieldOf(int bond, int day, int price) {
    Bond b = bondAt(bond);
    must(find(b.row, day) != NONE && price >= 1 && price <= 99999999);
    return greatest(sums(b, day), w(b, day), price);
  }

  private int worstOf(Bond b, int day, int price) {
    List<Integer> sums = sums(b, day);
    int worst = greatest(sums, w(b, day), price), first = find(b.row, day);
    int[][] lines = lines(b);
    for (var call : b.calls.tailMap(first).entrySet()) {
      int k = call.getKey();
      List<Integer> some = new ArrayList<>(sums.subList(0, k - first + 1));
      int end = Frac.of(lines[k][4]).times(Frac.of(call.getValue(), 100)).times(Frac.of(indexAt(b, k), 100))
          .roundedInt(s.mode);
      some.set(k - first, some.get(k - first) + end);
      worst = Math.min(worst, greatest(some, w(b, day), price));
    }
    return worst;
  }

  public int worst(int bond, int day, int price) {
    Bond b = bondAt(bond);
    must(find(b.row, day) != NONE && price >= 1 && price <= 99999999);
    return worstOf(b, day, price);
  }

  private int durationOf(Bond b, int day, int n) {
    List<Integer> sums = sums(b, day);
    Frac w = w(b, day), all = Frac.of(0);
    for (int i = 0; i < sums.size(); i++) {
      List<Integer> alone = new ArrayList<>(Collections.nCopies(sums.size(), 0));
      alone.set(i, sums.get(i));
      all = all.plus(w.plus(Frac.of(i)).times(worth(alone, w, n)));
    }
    Frac price = worth(sums, w, n);
    return price.top().signum() == 0 ? NONE : Frac.of(1000).times(all).by(price).floor().intValueExact();
  }

  public int duration(int bond, int day, int yield) {
    Bond b = bondAt(bond);
    must(find(b.row, day) != NONE && yield >= 0 && yield <= 999999);
    return durationOf(b, day, yield);
  }

  private List<Frac> factors(List<int[]> quotes) {
    List<Frac> factors = new ArrayList<>(List.of(Frac.of(1)));
    for (int[] q : quotes) {
      Frac sum = Frac.of(0);
      for (Frac f : factors.subList(1, factors.size())) sum = sum.plus(f);
      factors.add(Frac.of(q[1]).minus(Frac.of(q[0]).times(sum)).by(Frac.of(100 + q[0])));
    }
    return factors;
  }

  public int quote(int coupon, int price) {
    must(coupon >= 0 && coupon <= 50 && price >= 1 && price <= 200);
    mustStand(s.quotes.size() < 6);
    List<int[]> more = new ArrayList<>(s.quotes);
    more.add(new int[] {coupon, price});
    if (factors(more).get(more.size()).compareTo(Frac.of(0)) <= 0) return -9;
    keep();
    s.quotes.add(new int[] {coupon, price});
    return s.quotes.size();
  }

  public int unquote() {
    mustStand(!s.quotes.isEmpty());
    keep();
    s.quotes.remove(s.quotes.size() - 1);
    return s.quotes.size();
  }

  private Frac factorAt(int k) {
    return factors(s.quotes).get(k);
  }

  private Frac factorSum(int k) {
    Frac sum = Frac.of(0);
    for (int i = 1; i <= k; i++) sum = sum.plus(factorAt(i));
    return sum;
  }

  public String factor(int k) {
    mustBeThere(k >= 0 && k <= s.quotes.size());
    return factorAt(k).toString();
  }

  public String forward(int k) {
    mustBeThere(k >= 1 && k <= s.quotes.size());
    return factorAt(k - 1).by(factorAt(k)).minus(Frac.of(1)).toString();
  }

  public String par(int k) {
    mustBeThere(k >= 1 && k <= s.quotes.size());
    return Frac.of(1).minus(factorAt(k)).by(factorSum(k)).toString();
  }

  public String swap(int rate, int k) {
    mustBeThere(k >= 1 && k <= s.quotes.size());
    must(rate >= 0 && rate <= 50);
    return Frac.of(100).times(Frac.of(1).minus(factorAt(k))).minus(Frac.of(rate).times(factorSum(k))).toString();
  }

  public int split(int sum, int a, int b, boolean isShared) {
    for (int x : new int[] {sum, a, b}) must(x >= 0 && x <= 999999);
    if (!isShared || sum >= a + b) return Math.min(sum, a);
    int ofA = Frac.of((long) sum * a, a + b).floor().intValueExact();
    int ofB = Frac.of((long) sum * b, a + b).floor().intValueExact();
    return ofA + ofB < sum ? ofA + 1 : ofA;
  }

  public int type(int sign) {
    must(sign >= 0 && sign <= 16);
    mustStand(slip.size() < 14);
    slip.add(sign);
    return slip.size();
  }

  public int wipe() {
    int before = slip.size();
    slip.clear();
    return before;
  }

  private String slipText() {
    StringBuilder text = new StringBuilder();
    for (int sign : slip) text.append("0123456789LB,%ape".charAt(sign));
    return text.toString();
  }

  private static final java.util.regex.Pattern WHOLE =
      java.util.regex.Pattern.compile("L([1-9][0-9]{0,5}),([0-9]{1,4})%([ape])|B([1-9][0-9]{0,5}),([0-9]{1,4})%");

  // A text can stand as far as it goes if the matcher would only ask for more.
  public int fault() {
    String text = slipText();
    for (int i = 1; i <= text.length(); i++) {
      var matcher = WHOLE.matcher(text.substring(0, i));
      if (!matcher.matches() && !matcher.hitEnd()) return i - 1;
    }
    return WHOLE.matcher(text).matches() ? NONE : text.length();
  }

  public int terms() {
    int first = slip.isEmpty() ? NONE : slip.get(0);
    mustStand(!s.row.isEmpty() && !(first == 10 && s.loans.size() == 3) && !(first == 11 && s.bonds.size() == 3));
    if (fault() != NONE) return -9;
    var matcher = WHOLE.matcher(slipText());
    if (!matcher.matches()) throw new NoSuchElementException();
    if (first == 11) return addBond(Integer.parseInt(matcher.group(4)), Integer.parseInt(matcher.group(5)));
    return addLoan(Integer.parseInt(matcher.group(1)), Integer.parseInt(matcher.group(2)),
        "ape".indexOf(matcher.group(3)), 0);
  }

  public int undo() {
    mustStand(!past.isEmpty());
    s = past.remove(past.size() - 1);
    return past.size();
  }

  public int house(int what) {
    must(what >= 0 && what <= 11);
    return new int[] {s.feasts.size(), s.steps.size(), Math.max(0, s.row.size() - 1), s.loans.size(),
        s.bonds.size(), s.quotes.size(), s.mode, s.fee, s.grace, s.order, past.size(), knocks}[what];
  }

  public int knock() {
    return ++knocks;
  }

  public boolean isSound() {
    for (int i = 0; i + 1 < s.row.size(); i++) {
      if (period(s.row.get(i)) != i + 1 || i > 0 && period(s.row.get(i) - 1) != i) return false;
    }
    for (Loan l : s.loans) {
      int[][] lines = plan(l);
      if (total(lines, 1) != l.amount || lines[lines.length - 1][4] != 0) return false;
      int[] end = ledger(l, LAST);
      if (end[5] + end[6] - end[0] - end[1] - end[2] + end[3] != end[4]) return false;
    }
    for (Bond b : s.bonds) {
      int day = b.row.get(0), p = priceOf(b, day, 30000);
      if (p <= 0) continue;
      int n = greatest(sums(b, day), w(b, day), p);
      if (n == NONE) continue;
      Frac price = Frac.of(p);
      if (worth(sums(b, day), w(b, day), n).compareTo(price) < 0) return false;
      if (n < 999999 && worth(sums(b, day), w(b, day), n + 1).compareTo(price) >= 0) return false;
    }
    for (int k = 1; k <= s.quotes.size(); k++) {
      int[] q = s.quotes.get(k - 1);
      Frac sum = Frac.of(q[0]).times(factorSum(k)).plus(Frac.of(100).times(factorAt(k)));
      if (sum.compareTo(Frac.of(q[1])) != 0) return false;
    }
    return true;
  }

  public long digest() {
    List<Long> values = new ArrayList<>();
    for (int i = 0; i <= 11; i++) values.add((long) house(i));
    row().chars().forEach(c -> values.add((long) c));
    values.add((long) banks(0, 3000));
    for (Loan l : s.loans) {
      int[][] lines = plan(l);
      for (int i = 0; i <= 5; i++) values.add((long) total(lines, i));
      values.add((long) rate(l));
      for (int k = 1; k < lines.length; k++) Arrays.stream(lines[k]).forEach(v -> values.add((long) v));
      int[] end = ledger(l, l.row.get(l.row.size() - 1));
      for (int i = 0; i <= 5; i++) values.add((long) end[i]);
    }
    for (Bond b : s.bonds) {
      int[][] lines = lines(b);
      for (int k = 1; k < lines.length; k++) Arrays.stream(lines[k]).forEach(v -> values.add((long) v));
      values.add((long) priceOf(b, b.row.get(0), 20000));
      values.add((long) durationOf(b, b.row.get(0), 20000));
      values.add((long) worstOf(b, b.row.get(0), b.face));
    }
    for (int k = 0; k <= s.quotes.size(); k++) factor(k).chars().forEach(c -> values.add((long) c));
    values.add((long) fault());
    values.add(isSound() ? 1L : 0L);
    long d = 6904;
    for (long v : values) d = d * 31 + v;
    return d;
  }
}
