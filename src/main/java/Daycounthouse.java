/** A house that counts days and interest; ../shared/DOC.md says, promise by promise, what each call does. */
public final class Daycounthouse {
  private static final int NONE = -1;
  private static final int REFUSED = -9;
  private static final int MOST_STEPS = 8;
  private static final int MOST_PERIODS = 24;
  private static final int MOST_LOANS = 3;
  private static final int MOST_BONDS = 3;
  private static final int MOST_PAID_DAYS = 20;
  private static final int MOST_QUOTES = 6;
  private static final int MOST_SIGNS = 14;
  private static final int MOST_CHANGES = 10;
  private static final int MOST_SUM = 999999;
  private static final int MOST_RATE = 9999;
  private static final int MOST_PRICE = 99999999;
  private static final int MILLION = 1000000;
  /** A day behind all others. */
  private static final int NEVER = 2147483647;
  private static final int SIGN_LOAN = 10;
  private static final int SIGN_BOND = 11;

  private final House now = new House();
  private final House[] past = new House[MOST_CHANGES];
  private int oldest;
  private int kept;
  private int knocks;
  private final Slip slip = new Slip();
  private final Row draft = new Row();
  private final Plan plan = new Plan();
  private final Ledger ledger = new Ledger();
  private final Stream stream = new Stream();

  public Daycounthouse() {
    for (int i = 0; i < MOST_CHANGES; i++) {
      past[i] = new House();
    }
  }

  // ---- days

  public int day(int year, int month, int day) {
    return Calendar.dayOf(year, month, day);
  }

  public String date(int day) throws IllegalArgumentException {
    checkDay(day);
    StringBuilder text = new StringBuilder();
    text.append(Calendar.yearOf(day)).append('-').append(Calendar.monthOf(day));
    return text.append('-').append(Calendar.dayInMonth(day)).toString();
  }

  public int weekDay(int day) throws IllegalArgumentException {
    checkDay(day);
    return (day + 6) % 7;
  }

  public int feast(int month, int day) throws IllegalArgumentException, IllegalStateException {
    checkRange(month, 1, 12);
    checkRange(day, 1, 31);
    checkState(now.calendar.count < Calendar.MOST_FEASTS);
    keep();
    return now.calendar.add(month, day);
  }

  public int moving(int behind) throws IllegalArgumentException, IllegalStateException {
    checkRange(behind, -60, 60);
    checkState(now.calendar.count < Calendar.MOST_FEASTS);
    keep();
    return now.calendar.add(Calendar.WITH_EASTER, behind);
  }

  public int unfeast() throws IllegalStateException {
    checkState(now.calendar.count > 0);
    keep();
    now.calendar.count--;
    return now.calendar.count;
  }

  public boolean isBank(int day) throws IllegalArgumentException {
    checkDay(day);
    return now.calendar.isOpen(day);
  }

  public int roll(int day, int how) throws IllegalArgumentException {
    checkDay(day);
    checkRange(how, 0, 4);
    return now.calendar.rolled(day, how);
  }

  public int later(int day, int months, boolean isKept) throws IllegalArgumentException {
    checkDay(day);
    checkRange(months, -1200, 1200);
    return Calendar.laterBy(day, months, isKept);
  }

  public int banks(int a, int b) throws IllegalArgumentException {
    checkSpan(a, b);
    return now.calendar.openDays(a, b);
  }

  // ---- counts

  public int round(int mode) throws IllegalArgumentException {
    checkRange(mode, 0, 3);
    keep();
    int before = now.mode;
    now.mode = mode;
    return before;
  }

  public String share(int a, int b, int count) throws IllegalArgumentException {
    checkSpan(a, b);
    checkRange(count, 0, 7);
    return fraction(now.calendar.shareTop(a, b, count), Calendar.shareBottom(count));
  }

  public int simple(int amount, int rate, int a, int b, int count) throws IllegalArgumentException {
    checkRange(amount, 0, MOST_SUM);
    checkRange(rate, 0, MOST_RATE);
    checkSpan(a, b);
    checkRange(count, 0, 7);
    long top = (long) amount * rate * now.calendar.shareTop(a, b, count);
    return (int) rounded(top, 10000L * Calendar.shareBottom(count), now.mode);
  }

  public String grown(int amount, int rate, int times, int perYear, boolean isEach)
      throws IllegalArgumentException {
    checkRange(amount, 0, MOST_SUM);
    checkRange(rate, 0, MOST_RATE);
    checkRange(times, 0, 60);
    checkRange(perYear, 1, 365);
    return stream.grownText(amount, rate, times, 10000L * perYear, isEach ? 1 : times, now.mode);
  }

  public int step(int day, int rate) throws IllegalArgumentException, IllegalStateException {
    checkDay(day);
    checkRange(rate, NONE, MOST_RATE);
    int place = now.stepOn(day);
    checkState(place != NONE || rate == NONE || now.stepCount < MOST_STEPS);
    keep();
    int before = place == NONE ? NONE : now.stepRates[place];
    if (place != NONE) {
      now.dropStep(place);
    }
    if (rate != NONE) {
      now.addStep(day, rate);
    }
    return before;
  }

  public int stepped(int amount, int a, int b, int count) throws IllegalArgumentException {
    checkRange(amount, 0, MOST_SUM);
    checkSpan(a, b);
    checkRange(count, 0, 7);
    return (int) rounded(amount * now.steppedTop(a, b, count), 10000L * Calendar.shareBottom(count), now.mode);
  }

  public int schedule(int from, int to, int months, boolean isFirst, boolean isKept, int how)
      throws IllegalArgumentException {
    checkDay(from);
    checkDay(to);
    check(from < to);
    checkRange(months, 1, 24);
    checkRange(how, 0, 4);
    boolean isMade = isFirst ? draftBack(from, to, months, isKept, how) : draftOn(from, to, months, isKept, how);
    if (!isMade || draft.periods() < 1) {
      return REFUSED;
    }
    keep();
    now.row.copyFrom(draft);
    return now.row.periods();
  }

  public String row() {
    StringBuilder text = new StringBuilder();
    appendRow(text);
    return text.toString();
  }

  public int period(int day) throws IllegalArgumentException {
    checkDay(day);
    return now.row.find(day);
  }

  // ---- loans

  public int loan(int amount, int rate, int kind, int count) throws IllegalArgumentException, IllegalStateException {
    checkRange(amount, 1, MOST_SUM);
    checkRange(rate, 0, MOST_RATE);
    checkRange(kind, 0, 2);
    checkRange(count, 0, 7);
    checkState(now.row.count > 0 && now.loanCount < MOST_LOANS);
    return addLoan(amount, rate, kind, count);
  }

  public int holiday(int loan, int many) throws IndexOutOfBoundsException, IllegalArgumentException {
    Loan one = loanAt(loan);
    checkRange(many, 0, one.row.periods() - 1);
    keep();
    int before = one.free;
    one.free = many;
    return before;
  }

  public int early(int loan, int k, int sum) throws IndexOutOfBoundsException, IllegalArgumentException {
    Loan one = loanAt(loan);
    checkIndex(k, 1, one.row.periods());
    checkRange(sum, 0, MOST_SUM);
    return told(one.earlies, k, sum);
  }

  public int change(int loan, int k, int rate) throws IndexOutOfBoundsException, IllegalArgumentException {
    Loan one = loanAt(loan);
    checkIndex(k, 1, one.row.periods());
    checkRange(rate, NONE, MOST_RATE);
    return told(one.rates, k, rate);
  }

  public int planned(int loan, int k, int what) throws IndexOutOfBoundsException, IllegalArgumentException {
    Loan one = loanAt(loan);
    checkIndex(k, 1, one.row.periods());
    checkRange(what, 0, 5);
    plan.fill(one, now.calendar, now.mode);
    return plan.value(k, what);
  }

  public int all(int loan, int what) throws IndexOutOfBoundsException, IllegalArgumentException {
    Loan one = loanAt(loan);
    checkRange(what, 0, 5);
    plan.fill(one, now.calendar, now.mode);
    return plan.total(what);
  }

  public int rateOf(int loan) throws IndexOutOfBoundsException {
    Loan one = loanAt(loan);
    plan.fill(one, now.calendar, now.mode);
    stream.fillByPlan(plan);
    return stream.greatest(one.amount, false);
  }

  public int late(int fee, int grace) throws IllegalArgumentException {
    checkRange(fee, 0, 9999);
    checkRange(grace, 0, 60);
    keep();
    int before = now.fee;
    now.fee = fee;
    now.grace = grace;
    return before;
  }

  public int order(int order) throws IllegalArgumentException {
    checkRange(order, 0, 5);
    keep();
    int before = now.turn;
    now.turn = order;
    return before;
  }

  public int pay(int loan, int day, int sum)
      throws IndexOutOfBoundsException, IllegalArgumentException, IllegalStateException {
    Loan one = loanAt(loan);
    checkDay(day);
    check(day >= one.row.days[0]);
    checkRange(sum, 1, MOST_SUM);
    int place = one.paidOn(day);
    checkState(place != NONE || one.paidCount < MOST_PAID_DAYS);
    keep();
    if (place == NONE) {
      return one.addPaid(day, sum);
    }
    one.paidSums[place] += sum;
    return one.paidSums[place];
  }

  public int owes(int loan, int day, int what) throws IndexOutOfBoundsException, IllegalArgumentException {
    Loan one = loanAt(loan);
    checkDay(day);
    checkRange(what, 0, 5);
    plan.fill(one, now.calendar, now.mode);
    ledger.run(one, plan, now, day);
    return ledger.value(what);
  }

  // ---- bonds

  public int bond(int face, int coupon) throws IllegalArgumentException, IllegalStateException {
    checkRange(face, 1, MOST_SUM);
    checkRange(coupon, 0, MOST_RATE);
    checkState(now.row.count > 0 && now.bondCount < MOST_BONDS);
    return addBond(face, coupon);
  }

  public int sink(int bond, int k, int sum) throws IndexOutOfBoundsException, IllegalArgumentException {
    Bond one = bondAt(bond);
    checkIndex(k, 1, one.row.periods());
    checkRange(sum, 0, MOST_SUM);
    return told(one.sunk, k, sum);
  }

  public int call(int bond, int k, int percent) throws IndexOutOfBoundsException, IllegalArgumentException {
    Bond one = bondAt(bond);
    checkIndex(k, 1, one.row.periods() - 1);
    check(percent == NONE || (percent >= 50 && percent <= 200));
    return told(one.calls, k, percent);
  }

  public int reset(int bond, int k, int coupon) throws IndexOutOfBoundsException, IllegalArgumentException {
    Bond one = bondAt(bond);
    checkIndex(k, 1, one.row.periods());
    checkRange(coupon, NONE, MOST_RATE);
    return told(one.coupons, k, coupon);
  }

  public int link(int bond, int k, int index) throws IndexOutOfBoundsException, IllegalArgumentException {
    Bond one = bondAt(bond);
    checkIndex(k, 1, one.row.periods());
    check(index == NONE || (index >= 1 && index <= 999));
    return told(one.indexes, k, index);
  }

  public int ex(int bond, int days) throws IndexOutOfBoundsException, IllegalArgumentException {
    Bond one = bondAt(bond);
    checkRange(days, 0, 60);
    keep();
    int before = one.exDays;
    one.exDays = days;
    return before;
  }

  public int flow(int bond, int k, int what) throws IndexOutOfBoundsException, IllegalArgumentException {
    Bond one = bondAt(bond);
    checkIndex(k, 1, one.row.periods());
    checkRange(what, 0, 4);
    stream.fill(one, now.mode);
    return stream.value(one, k, what);
  }

  public String accrued(int bond, int day) throws IndexOutOfBoundsException, IllegalArgumentException {
    Bond one = bondAt(bond);
    check(one.row.find(day) != NONE);
    stream.fill(one, now.mode);
    stream.stand(one, day);
    return fraction(stream.accruedTop(one), stream.span);
  }

  public int price(int bond, int day, int gain) throws IndexOutOfBoundsException, IllegalArgumentException {
    Bond one = bondAt(bond);
    check(one.row.find(day) != NONE);
    checkRange(gain, 0, MILLION - 1);
    stream.fill(one, now.mode);
    stream.stand(one, day);
    return (int) stream.worth(gain, now.mode);
  }

  public int yieldOf(int bond, int day, int price) throws IndexOutOfBoundsException, IllegalArgumentException {
    return greatestGain(bond, day, price, false);
  }

  public int worst(int bond, int day, int price) throws IndexOutOfBoundsException, IllegalArgumentException {
    return greatestGain(bond, day, price, true);
  }

  public int duration(int bond, int day, int gain) throws IndexOutOfBoundsException, IllegalArgumentException {
    Bond one = bondAt(bond);
    check(one.row.find(day) != NONE);
    checkRange(gain, 0, MILLION - 1);
    stream.fill(one, now.mode);
    stream.stand(one, day);
    return stream.meanTime(gain);
  }

  // ---- curve, lenders, slip

  public int quote(int coupon, int price) throws IllegalArgumentException, IllegalStateException {
    checkRange(coupon, 0, 50);
    checkRange(price, 1, 200);
    checkState(now.curve.count < MOST_QUOTES);
    if (now.curve.nextTop(coupon, price) <= 0) {
      return REFUSED;
    }
    keep();
    return now.curve.add(coupon, price);
  }

  public int unquote() throws IllegalStateException {
    checkState(now.curve.count > 0);
    keep();
    now.curve.count--;
    return now.curve.count;
  }

  public String factor(int k) throws IndexOutOfBoundsException {
    checkIndex(k, 0, now.curve.count);
    return fraction(now.curve.tops[k], now.curve.bottoms[k]);
  }

  public String forward(int k) throws IndexOutOfBoundsException {
    checkIndex(k, 1, now.curve.count);
    Curve curve = now.curve;
    return fraction(curve.tops[k - 1] * (100 + curve.coupons[k]) - curve.tops[k], curve.tops[k]);
  }

  public String par(int k) throws IndexOutOfBoundsException {
    checkIndex(k, 1, now.curve.count);
    Curve curve = now.curve;
    return fraction(curve.bottoms[k] - curve.tops[k], curve.sums[k]);
  }

  public String swap(int rate, int k) throws IndexOutOfBoundsException, IllegalArgumentException {
    checkIndex(k, 1, now.curve.count);
    checkRange(rate, 0, 50);
    Curve curve = now.curve;
    return fraction(100 * (curve.bottoms[k] - curve.tops[k]) - rate * curve.sums[k], curve.bottoms[k]);
  }

  public int split(int sum, int a, int b, boolean isShared) throws IllegalArgumentException {
    checkRange(sum, 0, MOST_SUM);
    checkRange(a, 0, MOST_SUM);
    checkRange(b, 0, MOST_SUM);
    int owed = a + b;
    if (sum >= owed || !isShared) {
      return Math.min(sum, a);
    }
    long ofB = owed > 0 ? (long) sum * b / owed : 0;
    return (int) (sum - ofB);
  }

  public int type(int sign) throws IllegalArgumentException, IllegalStateException {
    checkRange(sign, 0, 16);
    checkState(slip.count < MOST_SIGNS);
    return slip.add(sign);
  }

  public int wipe() {
    int before = slip.count;
    slip.count = 0;
    return before;
  }

  public int fault() {
    return slip.read();
  }

  public int terms() throws IllegalStateException {
    int first = slip.count > 0 ? slip.signs[0] : NONE;
    checkState(now.row.count > 0);
    checkState(first != SIGN_LOAN || now.loanCount < MOST_LOANS);
    checkState(first != SIGN_BOND || now.bondCount < MOST_BONDS);
    if (slip.read() != NONE) {
      return REFUSED;
    }
    return slip.isBond ? addBond(slip.amount, slip.rate) : addLoan(slip.amount, slip.rate, slip.kind, 0);
  }

  // ---- the house

  public int undo() throws IllegalStateException {
    checkState(kept > 0);
    kept--;
    now.copyFrom(past[(oldest + kept) % MOST_CHANGES]);
    return kept;
  }

  public int house(int what) throws IllegalArgumentException {
    checkRange(what, 0, 11);
    switch (what) {
      case 0: return now.calendar.count;
      case 1: return now.stepCount;
      case 2: return now.row.periods();
      case 3: return now.loanCount;
      case 4: return now.bondCount;
      case 5: return now.curve.count;
      case 6: return now.mode;
      case 7: return now.fee;
      case 8: return now.grace;
      case 9: return now.turn;
      case 10: return kept;
      default: return knocks;
    }
  }

  public int knock() {
    knocks++;
    return knocks;
  }

  public boolean isSound() {
    boolean isSo = now.row.isRight() && now.curve.isRight();
    for (int i = 0; i < now.loanCount && isSo; i++) {
      Loan one = now.loans[i];
      plan.fill(one, now.calendar, now.mode);
      ledger.run(one, plan, now, Calendar.LAST_DAY);
      isSo = plan.isRight(one) && ledger.isRight();
    }
    for (int i = 0; i < now.bondCount && isSo; i++) {
      Bond one = now.bonds[i];
      stream.fill(one, now.mode);
      stream.stand(one, one.row.days[0]);
      isSo = stream.isRight(now.mode);
    }
    return isSo;
  }

  public long digest() {
    long d = 6904;
    for (int what = 0; what <= 11; what++) {
      d = d * 31 + house(what);
    }
    StringBuilder text = new StringBuilder();
    appendRow(text);
    d = mixedText(d, text);
    d = d * 31 + now.calendar.openDays(0, 3000);
    for (int i = 0; i < now.loanCount; i++) {
      d = mixedLoan(d, now.loans[i]);
    }
    for (int i = 0; i < now.bondCount; i++) {
      d = mixedBond(d, now.bonds[i]);
    }
    for (int k = 0; k <= now.curve.count; k++) {
      text.setLength(0);
      appendFraction(text, now.curve.tops[k], now.curve.bottoms[k]);
      d = mixedText(d, text);
    }
    d = d * 31 + fault();
    return d * 31 + (isSound() ? 1 : 0);
  }

  // ---- what the calls above share

  private static void check(boolean isRight) {
    if (!isRight) {
      throw new IllegalArgumentException();
    }
  }

  private static void checkRange(int value, int least, int most) {
    if (value < least || value > most) {
      throw new IllegalArgumentException();
    }
  }

  private static void checkDay(int day) {
    checkRange(day, 0, Calendar.LAST_DAY);
  }

  private static void checkSpan(int a, int b) {
    checkDay(a);
    checkDay(b);
    check(a <= b);
  }

  private static void checkState(boolean isRight) {
    if (!isRight) {
      throw new IllegalStateException();
    }
  }

  private static void checkIndex(int index, int least, int most) {
    if (index < least || index > most) {
      throw new IndexOutOfBoundsException();
    }
  }

  private Loan loanAt(int loan) {
    checkIndex(loan, 0, now.loanCount - 1);
    return now.loans[loan];
  }

  private Bond bondAt(int bond) {
    checkIndex(bond, 0, now.bondCount - 1);
    return now.bonds[bond];
  }

  /** Stands ahead of each CHANGE, when nothing can refuse it any more. */
  private void keep() {
    if (kept == MOST_CHANGES) {
      oldest = (oldest + 1) % MOST_CHANGES;
      kept--;
    }
    past[(oldest + kept) % MOST_CHANGES].copyFrom(now);
    kept++;
  }

  private int told(int[] values, int k, int value) {
    keep();
    int before = values[k];
    values[k] = value;
    return before;
  }

  private boolean draftOn(int from, int to, int months, boolean isKept, int how) {
    draft.begin(months);
    boolean isGood = true;
    int day = from;
    for (int k = 1; isGood && day != NONE && day < to && k <= 1200; k++) {
      isGood = draft.takes(now.calendar.rolled(day, how));
      day = Calendar.laterBy(from, k * months, isKept);
    }
    return isGood && draft.takes(now.calendar.rolled(to, how));
  }

  private boolean draftBack(int from, int to, int months, boolean isKept, int how) {
    draft.begin(months);
    boolean isGood = true;
    int day = to;
    for (int k = 1; isGood && day != NONE && day > from && k <= 1200; k++) {
      isGood = draft.takes(now.calendar.rolled(day, how));
      day = Calendar.laterBy(to, -k * months, isKept);
    }
    isGood = isGood && draft.takes(now.calendar.rolled(from, how));
    draft.turn();
    return isGood;
  }

  private int addLoan(int amount, int rate, int kind, int count) {
    keep();
    Loan one = now.loans[now.loanCount];
    one.begin(amount, rate, kind, count);
    one.row.copyFrom(now.row);
    now.loanCount++;
    return now.loanCount - 1;
  }

  private int addBond(int face, int coupon) {
    keep();
    Bond one = now.bonds[now.bondCount];
    one.begin(face, coupon);
    one.row.copyFrom(now.row);
    now.bondCount++;
    return now.bondCount - 1;
  }

  private int greatestGain(int bond, int day, int price, boolean isCalled) {
    Bond one = bondAt(bond);
    check(one.row.find(day) != NONE);
    checkRange(price, 1, MOST_PRICE);
    stream.fill(one, now.mode);
    stream.stand(one, day);
    return stream.greatest(price, isCalled);
  }

  private void appendRow(StringBuilder text) {
    if (now.row.count == 0) {
      text.append('-');
    }
    for (int i = 0; i < now.row.count; i++) {
      if (i > 0) {
        text.append(' ');
      }
      text.append(now.row.days[i]);
    }
  }

  private static long mixedText(long start, StringBuilder text) {
    long d = start;
    for (int i = 0; i < text.length(); i++) {
      d = d * 31 + text.charAt(i);
    }
    return d;
  }

  private long mixedLoan(long start, Loan one) {
    long d = start;
    plan.fill(one, now.calendar, now.mode);
    for (int what = 0; what <= 5; what++) {
      d = d * 31 + plan.total(what);
    }
    stream.fillByPlan(plan);
    d = d * 31 + stream.greatest(one.amount, false);
    for (int k = 1; k <= plan.count; k++) {
      for (int what = 0; what <= 5; what++) {
        d = d * 31 + plan.value(k, what);
      }
    }
    ledger.run(one, plan, now, one.row.days[one.row.periods()]);
    for (int what = 0; what <= 5; what++) {
      d = d * 31 + ledger.value(what);
    }
    return d;
  }

  private long mixedBond(long start, Bond one) {
    long d = start;
    stream.fill(one, now.mode);
    for (int k = 1; k <= stream.last; k++) {
      for (int what = 0; what <= 4; what++) {
        d = d * 31 + stream.value(one, k, what);
      }
    }
    stream.stand(one, one.row.days[0]);
    d = d * 31 + stream.worth(20000, now.mode);
    d = d * 31 + stream.meanTime(20000);
    return d * 31 + stream.greatest(one.face, true);
  }

  /** What is rounded is whole + half * 1/2 + something below 1/2 that is above 0 if isMore. */
  private static boolean isUp(int mode, boolean isOdd, boolean isHalf, boolean isMore) {
    switch (mode) {
      case 0: return false;
      case 1: return isHalf;
      case 2: return isHalf && (isMore || isOdd);
      default: return isHalf || isMore;
    }
  }

  private static long roundedHalves(long halves, boolean isMore, int mode) {
    long whole = halves / 2;
    return isUp(mode, whole % 2 == 1, halves % 2 == 1, isMore) ? whole + 1 : whole;
  }

  private static long rounded(long top, long bottom, int mode) {
    if (bottom <= 0) {
      return 0;
    }
    return roundedHalves(2 * top / bottom, 2 * top % bottom != 0, mode);
  }

  private static String fraction(long top, long bottom) {
    StringBuilder text = new StringBuilder();
    appendFraction(text, top, bottom);
    return text.toString();
  }

  private static void appendFraction(StringBuilder text, long top, long bottom) {
    long a = top < 0 ? -top : top;
    long b = bottom;
    // Fibonacci's worst pair of longs takes 90 turns.
    for (int i = 0; i < 100 && b > 0; i++) {
      long rest = a % b;
      a = b;
      b = rest;
    }
    long divisor = a > 0 ? a : 1;
    appendLong(text, top / divisor);
    text.append('/');
    appendLong(text, bottom / divisor);
  }

  private static void appendLong(StringBuilder text, long value) {
    long rest = value < 0 ? -value : value;
    if (value < 0) {
      text.append('-');
    }
    long unit = 1;
    for (int i = 0; i < 18 && rest / unit >= 10; i++) {
      unit *= 10;
    }
    for (int i = 0; i < 19 && unit > 0; i++) {
      text.append((char) ('0' + rest / unit % 10));
      unit /= 10;
    }
  }

  /** The calendar: dates of DAYS, FEASTS, BANK DAYS and the SHARES that count them. */
  private static final class Calendar {
    static final int LAST_DAY = 36524;
    static final int MOST_FEASTS = 6;
    static final int WITH_EASTER = 0;
    static final int FOUR_YEARS = 1461;
    static final int[] STARTS = {0, 31, 59, 90, 120, 151, 181, 212, 243, 273, 304, 334, 365};

    int count;
    /** The month of a FEAST, or WITH_EASTER. */
    final int[] months = new int[MOST_FEASTS];
    /** The day of the month, or the days behind EASTER. */
    final int[] days = new int[MOST_FEASTS];
    /** The DAYS of the FEASTS in the year that is looked at. */
    final int[] yearly = new int[MOST_FEASTS];

    void copyFrom(Calendar other) {
      count = other.count;
      System.arraycopy(other.months, 0, months, 0, MOST_FEASTS);
      System.arraycopy(other.days, 0, days, 0, MOST_FEASTS);
    }

    int add(int month, int day) {
      if (count < MOST_FEASTS) {
        months[count] = month;
        days[count] = day;
        count++;
      }
      return count;
    }

    static int lengthOf(int year, int month) {
      if (month < 1 || month > 12) {
        return 0;
      }
      return STARTS[month] - STARTS[month - 1] + (month == 2 && year % 4 == 0 ? 1 : 0);
    }

    /** How many days of the year are ahead of the month. */
    static int aheadOf(int year, int month) {
      if (month < 1 || month > 12) {
        return 0;
      }
      return STARTS[month - 1] + (month > 2 && year % 4 == 0 ? 1 : 0);
    }

    static int firstOf(int year) {
      int years = year - 2000;
      return years * 365 + (years + 3) / 4;
    }

    static int dayOf(int year, int month, int day) {
      if (year < 2000 || year > 2099 || day < 1 || day > lengthOf(year, month)) {
        return NONE;
      }
      return firstOf(year) + aheadOf(year, month) + day - 1;
    }

    static int yearOf(int day) {
      int rest = day % FOUR_YEARS;
      return 2000 + day / FOUR_YEARS * 4 + (rest < 366 ? 0 : 1 + (rest - 366) / 365);
    }

    static int monthOf(int day) {
      int year = yearOf(day);
      int inYear = day - firstOf(year);
      int month = 12;
      while (month > 1 && inYear < aheadOf(year, month)) {
        month--;
      }
      return month;
    }

    static int dayInMonth(int day) {
      int year = yearOf(day);
      return day - firstOf(year) - aheadOf(year, monthOf(day)) + 1;
    }

    static int easterOf(int year) {
      int a = year % 19;
      int d = (19 * a + 24) % 30;
      int e = (2 * (year % 4) + 4 * (year % 7) + 6 * d + 5) % 7;
      boolean isLess = e == 6 && (d == 29 || (d == 28 && a > 10));
      return firstOf(year) + aheadOf(year, 3) + 21 + d + e - (isLess ? 7 : 0);
    }

    static int laterBy(int day, int months, boolean isKept) {
      int year = yearOf(day);
      int month = monthOf(day);
      int inMonth = day - firstOf(year) - aheadOf(year, month) + 1;
      int target = (year - 2000) * 12 + month - 1 + months;
      if (target < 0 || target >= 1200) {
        return NONE;
      }
      int newYear = 2000 + target / 12;
      int newMonth = target % 12 + 1;
      int length = lengthOf(newYear, newMonth);
      boolean isEnd = isKept && inMonth == lengthOf(year, month);
      return dayOf(newYear, newMonth, isEnd || inMonth > length ? length : inMonth);
    }

    /** DAY 0 is a Saturday, so each week of seven DAYS begins with its two free ones. */
    static boolean isWeekend(int day) {
      return day % 7 < 2;
    }

    static int workDaysAhead(int day) {
      return day / 7 * 5 + Math.max(0, day % 7 - 2);
    }

    /** The DAY of a FEAST in a year, or NONE. */
    int feastDay(int year, int i) {
      if (i < 0 || i >= MOST_FEASTS) {
        return NONE;
      }
      return months[i] == WITH_EASTER ? easterOf(year) + days[i] : dayOf(year, months[i], days[i]);
    }

    boolean isOpen(int day) {
      boolean isFree = isWeekend(day);
      int year = yearOf(day);
      for (int i = 0; i < count && !isFree; i++) {
        isFree = feastDay(year, i) == day;
      }
      return !isFree;
    }

    /** FEASTS are counted year by year, since a walk over all days is dear. */
    int openDays(int a, int b) {
      int open = workDaysAhead(b) - workDaysAhead(a);
      int lastYear = yearOf(b);
      for (int year = yearOf(a); year <= lastYear; year++) {
        for (int i = 0; i < count; i++) {
          int day = feastDay(year, i);
          yearly[i] = day;
          if (day >= a && day < b && !isWeekend(day) && isFirst(i)) {
            open--;
          }
        }
      }
      return open;
    }

    /** Two FEASTS on one day take away just one BANK DAY. */
    boolean isFirst(int i) {
      for (int j = 0; j < i; j++) {
        if (yearly[j] == yearly[i]) {
          return false;
        }
      }
      return true;
    }

    int nextOpen(int day) {
      for (int next = day; next <= LAST_DAY; next++) {
        if (isOpen(next)) {
          return next;
        }
      }
      return NONE;
    }

    int lastOpen(int day) {
      for (int last = day; last >= 0; last--) {
        if (isOpen(last)) {
          return last;
        }
      }
      return NONE;
    }

    int rolled(int day, int how) {
      if (how == 0) {
        return day;
      }
      boolean isOn = how == 1 || how == 3;
      int to = isOn ? nextOpen(day) : lastOpen(day);
      if (how > 2 && (to == NONE || monthOf(to) != monthOf(day))) {
        return isOn ? lastOpen(day) : nextOpen(day);
      }
      return to;
    }

    static int shareBottom(int how) {
      switch (how) {
        case 1: return 365;
        case 2: return 365 * 366;
        case 5: return 365;
        case 6: return 252;
        default: return 360;
      }
    }

    /** The upper number of SHARE, above shareBottom; not in lowest terms. */
    long shareTop(int a, int b, int how) {
      switch (how) {
        case 2: return leapShareTop(a, b);
        case 3: return thirtiesTop(a, b, false);
        case 4: return thirtiesTop(a, b, true);
        case 5: return b - leapDaysAhead(b) - (a - leapDaysAhead(a));
        case 6: return openDays(a, b);
        case 7: return monthsTop(a, b);
        default: return b - a;
      }
    }

    static long leapShareTop(int a, int b) {
      long inLeap = daysInLeapAhead(b) - daysInLeapAhead(a);
      return inLeap * 365 + (b - a - inLeap) * 366;
    }

    static int daysInLeapAhead(int day) {
      return day / FOUR_YEARS * 366 + Math.min(day % FOUR_YEARS, 366);
    }

    /** How many February 29 there are ahead of a DAY. */
    static int leapDaysAhead(int day) {
      return day / FOUR_YEARS + (day % FOUR_YEARS > 59 ? 1 : 0);
    }

    static long thirtiesTop(int a, int b, boolean isEach) {
      int dayOfA = Math.min(30, dayInMonth(a));
      int dayOfB = dayInMonth(b);
      if (dayOfB == 31 && (isEach || dayOfA == 30)) {
        dayOfB = 30;
      }
      return 360L * (yearOf(b) - yearOf(a)) + 30L * (monthOf(b) - monthOf(a)) + dayOfB - dayOfA;
    }

    static long monthsTop(int a, int b) {
      int months = (yearOf(b) - yearOf(a)) * 12 + monthOf(b) - monthOf(a);
      int from = laterBy(a, months, false);
      if (from > b) {
        months--;
        from = laterBy(a, months, false);
      }
      return 30L * months + b - from;
    }
  }

  /** A ROW: rising DAYS between which the PERIODS lie. */
  private static final class Row {
    /** 0 as long as there is no ROW. */
    int count;
    int months;
    final int[] days = new int[MOST_PERIODS + 1];

    void copyFrom(Row other) {
      count = other.count;
      months = other.months;
      System.arraycopy(other.days, 0, days, 0, MOST_PERIODS + 1);
    }

    void begin(int newMonths) {
      count = 0;
      months = newMonths;
    }

    /** Takes the next DAY, unless it is like the last one; false if it is NONE or too much. */
    boolean takes(int day) {
      if (day == NONE) {
        return false;
      }
      if (count > 0 && days[count - 1] == day) {
        return true;
      }
      if (count > MOST_PERIODS) {
        return false;
      }
      days[count] = day;
      count++;
      return true;
    }

    void turn() {
      for (int i = 0; i < count / 2; i++) {
        int day = days[i];
        days[i] = days[count - 1 - i];
        days[count - 1 - i] = day;
      }
    }

    int periods() {
      return count > 0 ? count - 1 : 0;
    }

    int find(int day) {
      for (int k = 1; k < count; k++) {
        if (day >= days[k - 1] && day < days[k]) {
          return k;
        }
      }
      return NONE;
    }

    boolean isRight() {
      for (int i = 0; i < periods(); i++) {
        if (find(days[i]) != i + 1 || (i > 0 && find(days[i] - 1) != i)) {
          return false;
        }
      }
      return true;
    }
  }

  /** A LOAN as it was told; what is told of the PERIOD k stands at place k. */
  private static final class Loan {
    int amount;
    int rate;
    int kind;
    int count;
    /** How many PERIODS the HOLIDAY has. */
    int free;
    int paidCount;
    final Row row = new Row();
    final int[] earlies = new int[MOST_PERIODS + 1];
    final int[] rates = new int[MOST_PERIODS + 1];
    final int[] paidDays = new int[MOST_PAID_DAYS];
    final int[] paidSums = new int[MOST_PAID_DAYS];

    void copyFrom(Loan other) {
      amount = other.amount;
      rate = other.rate;
      kind = other.kind;
      count = other.count;
      free = other.free;
      paidCount = other.paidCount;
      row.copyFrom(other.row);
      System.arraycopy(other.earlies, 0, earlies, 0, MOST_PERIODS + 1);
      System.arraycopy(other.rates, 0, rates, 0, MOST_PERIODS + 1);
      System.arraycopy(other.paidDays, 0, paidDays, 0, MOST_PAID_DAYS);
      System.arraycopy(other.paidSums, 0, paidSums, 0, MOST_PAID_DAYS);
    }

    void begin(int newAmount, int newRate, int newKind, int newCount) {
      amount = newAmount;
      rate = newRate;
      kind = newKind;
      count = newCount;
      free = 0;
      paidCount = 0;
      for (int k = 0; k <= MOST_PERIODS; k++) {
        earlies[k] = 0;
        rates[k] = NONE;
      }
    }

    int paidOn(int day) {
      for (int i = 0; i < paidCount; i++) {
        if (paidDays[i] == day) {
          return i;
        }
      }
      return NONE;
    }

    int addPaid(int day, int sum) {
      if (paidCount < MOST_PAID_DAYS) {
        paidDays[paidCount] = day;
        paidSums[paidCount] = sum;
        paidCount++;
      }
      return sum;
    }

    /** The first day behind that one on which something was paid; NEVER, if there is none. */
    int nextPaidDay(int day) {
      int next = NEVER;
      for (int i = 0; i < paidCount; i++) {
        if (paidDays[i] > day && paidDays[i] < next) {
          next = paidDays[i];
        }
      }
      return next;
    }
  }

  /** A BOND as it was told; what is told of the PERIOD k stands at place k. */
  private static final class Bond {
    int face;
    int coupon;
    int exDays;
    final Row row = new Row();
    final int[] sunk = new int[MOST_PERIODS + 1];
    final int[] calls = new int[MOST_PERIODS + 1];
    final int[] coupons = new int[MOST_PERIODS + 1];
    final int[] indexes = new int[MOST_PERIODS + 1];

    void copyFrom(Bond other) {
      face = other.face;
      coupon = other.coupon;
      exDays = other.exDays;
      row.copyFrom(other.row);
      System.arraycopy(other.sunk, 0, sunk, 0, MOST_PERIODS + 1);
      System.arraycopy(other.calls, 0, calls, 0, MOST_PERIODS + 1);
      System.arraycopy(other.coupons, 0, coupons, 0, MOST_PERIODS + 1);
      System.arraycopy(other.indexes, 0, indexes, 0, MOST_PERIODS + 1);
    }

    void begin(int newFace, int newCoupon) {
      face = newFace;
      coupon = newCoupon;
      exDays = 0;
      for (int k = 0; k <= MOST_PERIODS; k++) {
        sunk[k] = 0;
        calls[k] = NONE;
        coupons[k] = NONE;
        indexes[k] = NONE;
      }
    }
  }

  /** The CURVE. FACTOR of k is tops[k] / bottoms[k], the sum of FACTORS of 1 to k is sums[k] / bottoms[k]. */
  private static final class Curve {
    int count;
    final int[] coupons = new int[MOST_QUOTES + 1];
    final int[] prices = new int[MOST_QUOTES + 1];
    // bottoms[6] is at most 150^6, some 10^13, so all of these fit into a long, times 100 too.
    final long[] tops = new long[MOST_QUOTES + 1];
    final long[] bottoms = new long[MOST_QUOTES + 1];
    final long[] sums = new long[MOST_QUOTES + 1];

    Curve() {
      tops[0] = 1;
      bottoms[0] = 1;
    }

    void copyFrom(Curve other) {
      count = other.count;
      System.arraycopy(other.coupons, 0, coupons, 0, MOST_QUOTES + 1);
      System.arraycopy(other.prices, 0, prices, 0, MOST_QUOTES + 1);
      System.arraycopy(other.tops, 0, tops, 0, MOST_QUOTES + 1);
      System.arraycopy(other.bottoms, 0, bottoms, 0, MOST_QUOTES + 1);
      System.arraycopy(other.sums, 0, sums, 0, MOST_QUOTES + 1);
    }

    long nextTop(int coupon, int price) {
      return price * bottoms[count] - coupon * sums[count];
    }

    int add(int coupon, int price) {
      if (count < MOST_QUOTES) {
        long top = nextTop(coupon, price);
        int next = count + 1;
        coupons[next] = coupon;
        prices[next] = price;
        tops[next] = top;
        bottoms[next] = bottoms[count] * (100 + coupon);
        sums[next] = sums[count] * (100 + coupon) + top;
        count = next;
      }
      return count;
    }

    boolean isRight() {
      for (int k = 1; k <= count; k++) {
        if (coupons[k] * sums[k] + 100 * tops[k] != prices[k] * bottoms[k]) {
          return false;
        }
      }
      return true;
    }
  }

  /** All that a CHANGE may change, so that it can be taken back. */
  private static final class House {
    final Calendar calendar = new Calendar();
    int mode = 1;
    int stepCount;
    /** Rising. */
    final int[] stepDays = new int[MOST_STEPS];
    final int[] stepRates = new int[MOST_STEPS];
    final Row row = new Row();
    int loanCount;
    final Loan[] loans = new Loan[MOST_LOANS];
    int fee;
    int grace;
    /** The ORDER. */
    int turn;
    int bondCount;
    final Bond[] bonds = new Bond[MOST_BONDS];
    final Curve curve = new Curve();

    House() {
      for (int i = 0; i < MOST_LOANS; i++) {
        loans[i] = new Loan();
      }
      for (int i = 0; i < MOST_BONDS; i++) {
        bonds[i] = new Bond();
      }
    }

    void copyFrom(House other) {
      calendar.copyFrom(other.calendar);
      mode = other.mode;
      stepCount = other.stepCount;
      System.arraycopy(other.stepDays, 0, stepDays, 0, MOST_STEPS);
      System.arraycopy(other.stepRates, 0, stepRates, 0, MOST_STEPS);
      row.copyFrom(other.row);
      loanCount = other.loanCount;
      for (int i = 0; i < loanCount; i++) {
        loans[i].copyFrom(other.loans[i]);
      }
      fee = other.fee;
      grace = other.grace;
      turn = other.turn;
      bondCount = other.bondCount;
      for (int i = 0; i < bondCount; i++) {
        bonds[i].copyFrom(other.bonds[i]);
      }
      curve.copyFrom(other.curve);
    }

    int stepOn(int day) {
      for (int i = 0; i < stepCount; i++) {
        if (stepDays[i] == day) {
          return i;
        }
      }
      return NONE;
    }

    void dropStep(int place) {
      for (int i = place; i + 1 < stepCount; i++) {
        stepDays[i] = stepDays[i + 1];
        stepRates[i] = stepRates[i + 1];
      }
      stepCount--;
    }

    void addStep(int day, int rate) {
      if (stepCount >= MOST_STEPS) {
        return;
      }
      int place = stepCount;
      for (; place > 0 && stepDays[place - 1] > day; place--) {
        stepDays[place] = stepDays[place - 1];
        stepRates[place] = stepRates[place - 1];
      }
      stepDays[place] = day;
      stepRates[place] = rate;
      stepCount++;
    }

    /** The sum of rate * upper number of SHARE over the spans that the STEPS cut. */
    long steppedTop(int a, int b, int how) {
      long sum = 0;
      int from = a;
      int rate = 0;
      for (int i = 0; i < stepCount && stepDays[i] < b; i++) {
        if (stepDays[i] > from) {
          sum += rate * calendar.shareTop(from, stepDays[i], how);
          from = stepDays[i];
        }
        rate = stepRates[i];
      }
      return sum + rate * calendar.shareTop(from, b, how);
    }
  }

  /** The PLAN of one LOAN, worked out anew for each call; what is of the PERIOD k stands at place k. */
  private static final class Plan {
    static final long YEARLY = 120000;

    int count;
    final int[] ends = new int[MOST_PERIODS + 1];
    final int[] interests = new int[MOST_PERIODS + 1];
    final int[] parts = new int[MOST_PERIODS + 1];
    final int[] earlies = new int[MOST_PERIODS + 1];
    /** REST behind the PERIOD; AMOUNT at place 0. */
    final int[] rests = new int[MOST_PERIODS + 1];
    final int[] rates = new int[MOST_PERIODS + 1];
    final Wide top = new Wide();
    final Wide bottom = new Wide();
    final Wide help = new Wide();

    void fill(Loan loan, Calendar calendar, int mode) {
      count = loan.row.periods();
      rests[0] = loan.amount;
      rates[0] = loan.rate;
      long like = 0;
      for (int k = 1; k <= count; k++) {
        int rest = rests[k - 1];
        ends[k] = loan.row.days[k];
        rates[k] = loan.rates[k] == NONE ? rates[k - 1] : loan.rates[k];
        long share = calendar.shareTop(loan.row.days[k - 1], ends[k], loan.count);
        long shareBottom = Calendar.shareBottom(loan.count);
        interests[k] = (int) rounded(rest * (rates[k] * share), 10000 * shareBottom, mode);
        if (isLikeNew(loan, k)) {
          like = loan.kind == 0 ? likePayment(rest, rates[k] * loan.row.months, count - k + 1, mode)
              : rounded(rest, count - k + 1, mode);
        }
        parts[k] = (int) partOf(loan, k, like);
        earlies[k] = Math.min(loan.earlies[k], rest - parts[k]);
        rests[k] = rest - parts[k] - earlies[k];
      }
    }

    boolean isLikeNew(Loan loan, int k) {
      int first = loan.free + 1;
      return k == first || (k > first && (rates[k] != rates[k - 1] || loan.earlies[k - 1] > 0));
    }

    long partOf(Loan loan, int k, long like) {
      long rest = rests[k - 1];
      if (k == count) {
        return rest;
      }
      if (k <= loan.free || loan.kind == 2) {
        return 0;
      }
      long part = loan.kind == 0 ? like - interests[k] : like;
      return Math.max(0, Math.min(part, rest));
    }

    /** With r as growth / YEARLY and q as YEARLY + growth: rest * growth * q^n / (YEARLY * (q^n - YEARLY^n)). */
    long likePayment(int rest, long growth, int periods, int mode) {
      if (growth == 0) {
        return rounded(rest, periods, mode);
      }
      top.set(1);
      help.set(1);
      for (int i = 0; i < periods; i++) {
        top.times(YEARLY + growth);
        help.times(YEARLY);
      }
      bottom.copyFrom(top);
      bottom.lessBy(help);
      bottom.times(YEARLY);
      top.times(2L * rest * growth);
      long halves = top.by(bottom, help);
      help.copyFrom(bottom);
      help.times(halves);
      return roundedHalves(halves, help.compareWith(top) != 0, mode);
    }

    int value(int k, int what) {
      if (k < 1 || k > MOST_PERIODS) {
        return 0;
      }
      switch (what) {
        case 0: return ends[k];
        case 1: return interests[k];
        case 2: return parts[k];
        case 3: return earlies[k];
        case 4: return rests[k];
        default: return rates[k];
      }
    }

    int total(int what) {
      int interest = 0;
      int back = 0;
      int most = 0;
      int open = 0;
      for (int k = 1; k <= count; k++) {
        interest += interests[k];
        back += parts[k] + earlies[k];
        most = Math.max(most, interests[k] + parts[k]);
        open += rests[k - 1] > 0 ? 1 : 0;
      }
      switch (what) {
        case 0: return interest;
        case 1: return back;
        case 2: return interest + back;
        case 3: return most;
        case 4: return open;
        default: return count;
      }
    }

    boolean isRight(Loan loan) {
      return total(1) == loan.amount && value(count, 4) == 0;
    }
  }

  /** The LEDGER of one LOAN up to a DAY, worked out anew for each call. */
  private static final class Ledger {
    static final int FEES = 0;
    static final int INTEREST = 1;
    static final int PARTS = 2;
    /** Three places for each ORDER. */
    static final int[] ORDERS = {0, 1, 2, 0, 2, 1, 1, 0, 2, 1, 2, 0, 2, 0, 1, 2, 1, 0};

    final int[] owed = new int[3];
    /** All of interest and parts that was due up to the end of the PERIOD k. */
    final int[] dueUpTo = new int[MOST_PERIODS + 1];
    int purse;
    int paid;
    int fees;
    int due;
    /** What went to interest and parts. */
    int settled;

    void clear() {
      owed[FEES] = 0;
      owed[INTEREST] = 0;
      owed[PARTS] = 0;
      purse = 0;
      paid = 0;
      fees = 0;
      due = 0;
      settled = 0;
    }

    /**
     * Goes from one day with something on it to the next: on the days between nothing comes, and what the PURSE
     * could pay it has paid.
     */
    void run(Loan loan, Plan plan, House house, int lastDay) {
      clear();
      int dueNext = 1;
      int feeNext = 1;
      int today = NONE;
      for (int turn = 0; turn <= 2 * MOST_PERIODS + MOST_PAID_DAYS; turn++) {
        int paidDay = loan.nextPaidDay(today);
        int dueDay = dueNext <= plan.count ? plan.ends[dueNext] : NEVER;
        int feeDay = feeNext <= plan.count ? plan.ends[feeNext] + house.grace + 1 : NEVER;
        today = Math.min(paidDay, Math.min(dueDay, feeDay));
        if (today > lastDay) {
          return;
        }
        if (today == dueDay) {
          comeDue(plan, dueNext);
          dueNext++;
        }
        if (today == feeDay) {
          comeFee(feeNext, house.fee);
          feeNext++;
        }
        if (today == paidDay) {
          comePaid(loan, today);
        }
        settle(house.turn);
      }
    }

    void comeDue(Plan plan, int k) {
      owed[INTEREST] += plan.interests[k];
      owed[PARTS] += plan.parts[k];
      due += plan.interests[k] + plan.parts[k];
      dueUpTo[k] = due;
    }

    void comeFee(int k, int fee) {
      if (settled < dueUpTo[k]) {
        owed[FEES] += fee;
        fees += fee;
      }
    }

    void comePaid(Loan loan, int day) {
      int place = loan.paidOn(day);
      if (place != NONE) {
        purse += loan.paidSums[place];
        paid += loan.paidSums[place];
      }
    }

    void settle(int order) {
      for (int i = 3 * order; i >= 0 && i < 3 * order + 3 && i < ORDERS.length; i++) {
        int what = ORDERS[i];
        int sum = Math.min(purse, owed[what]);
        owed[what] -= sum;
        purse -= sum;
        settled += what == FEES ? 0 : sum;
      }
    }

    int value(int what) {
      switch (what) {
        case 0: return owed[FEES];
        case 1: return owed[INTEREST];
        case 2: return owed[PARTS];
        case 3: return purse;
        case 4: return paid;
        default: return fees;
      }
    }

    boolean isRight() {
      return due + fees - owed[FEES] - owed[INTEREST] - owed[PARTS] + purse == paid;
    }
  }

  /** What a BOND or a LOAN brings, PERIOD by PERIOD, and what that is worth; worked out anew for each call. */
  private static final class Stream {
    int first;
    int last;
    /** w is near / span. */
    long near;
    long span;
    final int[] coupons = new int[MOST_PERIODS + 1];
    final int[] backs = new int[MOST_PERIODS + 1];
    final int[] rests = new int[MOST_PERIODS + 1];
    final int[] sums = new int[MOST_PERIODS + 1];
    /** What a CALL of the PERIOD brings besides, or NONE. */
    final int[] ends = new int[MOST_PERIODS + 1];
    final Wide sum = new Wide();
    final Wide unit = new Wide();
    final Wide help = new Wide();
    final Wide timed = new Wide();

    void fill(Bond bond, int mode) {
      first = 1;
      last = bond.row.periods();
      int rest = bond.face;
      int coupon = bond.coupon;
      int index = 100;
      for (int k = 1; k <= last; k++) {
        coupon = bond.coupons[k] == NONE ? coupon : bond.coupons[k];
        index = bond.indexes[k] == NONE ? index : bond.indexes[k];
        coupons[k] = (int) rounded((long) rest * coupon * bond.row.months * index, 12000000, mode);
        int back = k == last ? rest : Math.min(bond.sunk[k], rest);
        rest -= back;
        backs[k] = (int) rounded((long) back * index, 100, mode);
        rests[k] = rest;
        sums[k] = coupons[k] + backs[k];
        boolean isCalled = k < last && bond.calls[k] != NONE;
        ends[k] = isCalled ? (int) rounded((long) rest * bond.calls[k] * index, 10000, mode) : NONE;
      }
    }

    /** A LOAN is worth what a BOND with these sums is on the first day of its first PERIOD. */
    void fillByPlan(Plan plan) {
      first = 1;
      last = plan.count;
      near = 1;
      span = 1;
      for (int k = 1; k <= last; k++) {
        sums[k] = plan.interests[k] + plan.parts[k] + plan.earlies[k];
        ends[k] = NONE;
      }
    }

    /** Follows fill, as the sum of the first PERIOD hangs on the DAY. */
    void stand(Bond bond, int day) {
      int k = bond.row.find(day);
      if (k == NONE) {
        return;
      }
      first = k;
      near = bond.row.days[k] - day;
      span = bond.row.days[k] - bond.row.days[k - 1];
      if (isEx(bond)) {
        sums[k] = backs[k];
      }
    }

    boolean isEx(Bond bond) {
      return near <= bond.exDays;
    }

    int value(Bond bond, int k, int what) {
      if (k < 1 || k > MOST_PERIODS) {
        return 0;
      }
      switch (what) {
        case 0: return bond.row.days[k];
        case 1: return coupons[k];
        case 2: return backs[k];
        case 3: return sums[k];
        default: return rests[k];
      }
    }

    long accruedTop(Bond bond) {
      return isEx(bond) ? -near * coupons[first] : (span - near) * coupons[first];
    }

    /** By how much 1 + w * y is multiplied, so that it is whole: by span * MILLION. */
    long nearGrowth(int gain) {
      return span * MILLION + near * gain;
    }

    long worth(int gain, int mode) {
      sum.set(0);
      unit.set(span * MILLION);
      for (int k = first; k <= last; k++) {
        if (k > first) {
          sum.times(MILLION + gain);
          unit.times(MILLION);
        }
        sum.addTimes(unit, sums[k]);
      }
      sum.times(2);
      boolean isMore = sum.divideBy(nearGrowth(gain), 1);
      isMore = sum.divideBy(MILLION + gain, last - first) || isMore;
      sum.settle(isMore, mode);
      return sum.lowest();
    }

    /**
     * Whether the sums are worth the price by that gain; with isCalled also those with each CALL. The price grows
     * PERIOD by PERIOD and is less by each sum: once nothing of it is left, all later ends bring enough too.
     */
    boolean reaches(long price, int gain, boolean isCalled) {
      sum.set(price * nearGrowth(gain));
      unit.set(span * MILLION);
      for (int k = first; k <= last; k++) {
        if (k > first) {
          sum.times(MILLION + gain);
          unit.times(MILLION);
        }
        if (isCalled && ends[k] != NONE) {
          help.copyFrom(unit);
          help.times((long) sums[k] + ends[k]);
          if (sum.compareWith(help) > 0) {
            return false;
          }
        }
        help.copyFrom(unit);
        help.times(sums[k]);
        if (sum.compareWith(help) <= 0) {
          return true;
        }
        sum.lessBy(help);
      }
      return false;
    }

    /** The greatest gain by which the price is reached, or NONE; what is worth less by more can be halved. */
    int greatest(long price, boolean isCalled) {
      if (!reaches(price, 0, isCalled)) {
        return NONE;
      }
      int low = 0;
      int high = MILLION - 1;
      for (int turn = 0; turn < 32 && low < high; turn++) {
        int middle = (low + high + 1) / 2;
        if (reaches(price, middle, isCalled)) {
          low = middle;
        } else {
          high = middle - 1;
        }
      }
      return low;
    }

    /** The floor of 1000 times the mean time of what the sums are worth; NONE if that is nothing. */
    int meanTime(int gain) {
      sum.set(0);
      timed.set(0);
      unit.set(1);
      for (int k = first; k <= last; k++) {
        if (k > first) {
          sum.times(MILLION + gain);
          timed.times(MILLION + gain);
          unit.times(MILLION);
        }
        sum.addTimes(unit, sums[k]);
        timed.addTimes(unit, sums[k] * (near + (k - first) * span));
      }
      if (sum.count == 0) {
        return NONE;
      }
      sum.times(span);
      timed.times(1000);
      return (int) timed.by(sum, help);
    }

    /** A sum that grows is rounded each so many times. */
    String grownText(int amount, int rate, int times, long bottom, int each, int mode) {
      sum.set(amount);
      for (int done = 0; done < times && each > 0; done += each) {
        for (int i = 0; i < each; i++) {
          sum.times(bottom + rate);
        }
        sum.times(2);
        sum.settle(sum.divideBy(bottom, each), mode);
      }
      return sum.digits();
    }

    boolean isRight(int mode) {
      long price = worth(30000, mode);
      if (price <= 0) {
        return true;
      }
      int gain = greatest(price, false);
      if (gain == NONE) {
        return true;
      }
      return reaches(price, gain, false) && (gain == MILLION - 1 || !reaches(price, gain + 1, false));
    }
  }

  /**
   * A whole number, 0 or more, of up to 1408 bits: the dearest one, 2 * 999999 * 3659999^60, has 1330. Its pieces
   * have 22 bits, so that one times a factor below 2^40 fits into a long.
   */
  private static final class Wide {
    static final int BITS = 22;
    static final long MASK = (1L << BITS) - 1;
    static final int MOST = 64;

    /** How many pieces there are, the lowest first; the highest is above 0. */
    int count;
    final long[] pieces = new long[MOST];

    void set(long value) {
      count = 0;
      append(value);
    }

    void copyFrom(Wide other) {
      count = other.count;
      System.arraycopy(other.pieces, 0, pieces, 0, count);
    }

    void append(long value) {
      long rest = value;
      while (rest > 0 && count < MOST) {
        pieces[count] = rest & MASK;
        rest >>= BITS;
        count++;
      }
    }

    void trim() {
      while (count > 0 && pieces[count - 1] == 0) {
        count--;
      }
    }

    void times(long factor) {
      long carry = 0;
      for (int i = 0; i < count; i++) {
        carry += pieces[i] * factor;
        pieces[i] = carry & MASK;
        carry >>= BITS;
      }
      append(carry);
      trim();
    }

    void addTimes(Wide other, long factor) {
      for (int i = count; i < other.count; i++) {
        pieces[i] = 0;
      }
      count = Math.max(count, other.count);
      long carry = 0;
      for (int i = 0; i < count; i++) {
        carry += pieces[i] + (i < other.count ? other.pieces[i] * factor : 0);
        pieces[i] = carry & MASK;
        carry >>= BITS;
      }
      append(carry);
      trim();
    }

    /** Of another one that is not above this. */
    void lessBy(Wide other) {
      long carry = 0;
      for (int i = 0; i < count; i++) {
        carry += pieces[i] - (i < other.count ? other.pieces[i] : 0);
        pieces[i] = carry & MASK;
        carry >>= BITS;
      }
      trim();
    }

    int compareWith(Wide other) {
      if (count != other.count) {
        return count < other.count ? -1 : 1;
      }
      for (int i = count - 1; i >= 0; i--) {
        if (pieces[i] != other.pieces[i]) {
          return pieces[i] < other.pieces[i] ? -1 : 1;
        }
      }
      return 0;
    }

    /** Divides so many times, by a divisor below 2^40; returns whether something was left over. */
    boolean divideBy(long divisor, int times) {
      boolean isMore = false;
      for (int turn = 0; turn < times && divisor > 0; turn++) {
        long rest = 0;
        for (int i = count - 1; i >= 0; i--) {
          rest = (rest << BITS) + pieces[i];
          pieces[i] = rest / divisor;
          rest %= divisor;
        }
        trim();
        isMore = isMore || rest > 0;
      }
      return isMore;
    }

    /** The floor of this by another one above 0, if it is below 2^31. */
    long by(Wide other, Wide help) {
      long low = 0;
      long high = (1L << 31) - 1;
      for (int turn = 0; turn < 32 && low < high; turn++) {
        long middle = (low + high + 1) / 2;
        help.copyFrom(other);
        help.times(middle);
        if (help.compareWith(this) <= 0) {
          low = middle;
        } else {
          high = middle - 1;
        }
      }
      return low;
    }

    /** Rounds what stands here in halves. */
    void settle(boolean isMore, int mode) {
      boolean isHalf = divideBy(2, 1);
      if (isUp(mode, count > 0 && pieces[0] % 2 == 1, isHalf, isMore)) {
        addOne();
      }
    }

    void addOne() {
      long carry = 1;
      for (int i = 0; i < count; i++) {
        carry += pieces[i];
        pieces[i] = carry & MASK;
        carry >>= BITS;
      }
      append(carry);
    }

    /** The number itself, if it is below 2^44. */
    long lowest() {
      return (count > 0 ? pieces[0] : 0) + (count > 1 ? pieces[1] << BITS : 0);
    }

    /** Uses the number up; at most some 430 digits. */
    String digits() {
      StringBuilder text = new StringBuilder();
      for (int turn = 0; turn < 500 && count > 0; turn++) {
        long rest = 0;
        for (int i = count - 1; i >= 0; i--) {
          rest = (rest << BITS) + pieces[i];
          pieces[i] = rest / 10;
          rest %= 10;
        }
        trim();
        text.append((char) ('0' + rest));
      }
      return text.length() == 0 ? "0" : text.reverse().toString();
    }
  }

  /** The SLIP, and what was read from it last. */
  private static final class Slip {
    static final int HEAD = 0;
    static final int AMOUNT = 1;
    static final int RATE = 2;
    static final int KIND = 3;
    static final int END = 4;

    int count;
    final int[] signs = new int[MOST_SIGNS];
    boolean isBond;
    int amount;
    int rate;
    int kind;
    int digits;

    int add(int sign) {
      if (count < MOST_SIGNS) {
        signs[count] = sign;
        count++;
      }
      return count;
    }

    /** Reads the SLIP and returns FAULT. */
    int read() {
      amount = 0;
      rate = 0;
      digits = 0;
      int stage = HEAD;
      for (int i = 0; i < count; i++) {
        stage = next(stage, signs[i]);
        if (stage == NONE) {
          return i;
        }
      }
      return stage == END ? NONE : count;
    }

    /** The stage behind a SIGN; NONE, if it cannot stand there. */
    int next(int stage, int sign) {
      switch (stage) {
        case HEAD:
          isBond = sign == SIGN_BOND;
          return sign == SIGN_LOAN || isBond ? AMOUNT : NONE;
        case AMOUNT:
          return nextOfAmount(sign);
        case RATE:
          return nextOfRate(sign);
        case KIND:
          kind = sign - 14;
          return kind >= 0 ? END : NONE;
        default:
          return NONE;
      }
    }

    int nextOfAmount(int sign) {
      if (sign == 12 && digits > 0) {
        digits = 0;
        return RATE;
      }
      if (sign > 9 || digits == 6 || (sign == 0 && digits == 0)) {
        return NONE;
      }
      amount = amount * 10 + sign;
      digits++;
      return AMOUNT;
    }

    int nextOfRate(int sign) {
      if (sign == 13 && digits > 0) {
        return isBond ? END : KIND;
      }
      if (sign > 9 || digits == 4) {
        return NONE;
      }
      rate = rate * 10 + sign;
      digits++;
      return RATE;
    }
  }
}
