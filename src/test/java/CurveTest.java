import java.util.Arrays;

/** Promises 44 to 54: the CURVE, two lenders and the SLIP. */
public final class CurveTest {
  private static final int MIN = Integer.MIN_VALUE;
  private static final int MAX = Integer.MAX_VALUE;
  private static final String SIGNS = "0123456789LB,%ape";

  private static void promise44() {
    Daycounthouse x = new Daycounthouse();
    Check.due("44: the least factor", x.quote(0, 1) + " " + x.factor(1), "1 1/100");
    x.undo();
    Check.due("44: quote(0, 50)", x.quote(0, 50), 1);
    int before = x.house(10);
    Check.due("44: a factor of 0", x.quote(50, 25), -9);
    Check.due("44: a factor below 0", x.quote(50, 1), -9);
    Check.due("44: refused, no change", x.house(10) + " " + x.house(5), before + " 1");
    Check.due("44: just above 0", x.quote(50, 26), 2);
    Check.due("44: 1 by 150", x.factor(2), "1/150");
    int[][] wrong = {{-1, 50}, {51, 50}, {5, 0}, {5, 201}, {MIN, MIN}, {MAX, MAX}};
    for (int[] w : wrong) {
      Check.argument(x, "44: quote " + w[0] + " " + w[1], () -> x.quote(w[0], w[1]));
    }
    for (int k = 3; k <= 6; k++) {
      Check.due("44: quote(0, 200)", x.quote(0, 200), k);
    }
    Check.state(x, "44: a seventh", () -> x.quote(0, 50));
    Check.state(x, "44: the exception goes ahead of -9", () -> x.quote(50, 1));
    Check.argument(x, "44: the argument goes first", () -> x.quote(0, 201));
    Check.due("44: house(10)", x.house(10), 6);
  }

  private static void promise45() {
    Daycounthouse x = new Daycounthouse();
    Check.state(x, "45: unquote() without one", x::unquote);
    x.quote(0, 50);
    x.quote(0, 25);
    Check.due("45: unquote()", x.unquote(), 1);
    Check.due("45: another instead", x.quote(0, 40), 2);
    Check.due("45: its factor", x.factor(2), "2/5");
    Check.due("45: unquote()", x.unquote() + " " + x.unquote(), "1 0");
    Check.due("45: house(10)", x.house(10), 6);
    Check.state(x, "45: unquote() without one", x::unquote);
  }

  private static void promise46to49() {
    Daycounthouse x = new Daycounthouse();
    Check.due("46: of 0 years", x.factor(0), "1/1");
    for (int k : new int[] {-1, 1, MIN, MAX}) {
      Check.index(x, "46: factor(" + k + ")", () -> x.factor(k));
    }
    for (int k : new int[] {-1, 0, 1, MIN, MAX}) {
      Check.index(x, "47: forward(" + k + ")", () -> x.forward(k));
      Check.index(x, "48: par(" + k + ")", () -> x.par(k));
      Check.index(x, "49: swap(51, " + k + ")", () -> x.swap(51, k));
    }
    x.quote(0, 50);
    x.quote(25, 100);
    // 1/2, then (100 - 25/2) / 125 = 7/10.
    Check.due("46: factor(1), factor(2)", x.factor(1) + " " + x.factor(2), "1/2 7/10");
    Check.due("47: forward(1), forward(2)", x.forward(1) + " " + x.forward(2), "1/1 -2/7");
    Check.due("48: par(1), par(2)", x.par(1) + " " + x.par(2), "1/1 1/4");
    Check.due("49: swap(0, 1)", x.swap(0, 1), "50/1");
    Check.due("49: swap(50, 1)", x.swap(50, 1), "25/1");
    Check.due("49: swap(25, 2)", x.swap(25, 2), "0/1");
    Check.due("49: swap(26, 2)", x.swap(26, 2), "-6/5");
    for (int rate : new int[] {-1, 51, MIN, MAX}) {
      Check.argument(x, "49: swap(" + rate + ", 1)", () -> x.swap(rate, 1));
    }
    Check.index(x, "49: the index goes first", () -> x.swap(51, 3));
    Daycounthouse y = new Daycounthouse();
    y.quote(0, 200);
    Check.due("46: above 1", y.factor(1), "2/1");
    Check.due("47: below 0", y.forward(1), "-1/2");
    Check.due("48: below 0", y.par(1), "-1/2");
    Check.due("49: below 0", y.swap(50, 1), "-200/1");
    y.unquote();
    for (int k = 0; k < 6; k++) {
      y.quote(49, 199);
    }
    Check.due("46: the longest", y.factor(6), "1990000000000/10942526586601");
  }

  private static void promise50() {
    Daycounthouse x = new Daycounthouse();
    int[][] dues = {{0, 0, 0, 0, 0}, {7, 3, 3, 3, 3}, {6, 3, 3, 3, 3}, {5, 3, 3, 3, 3}, {4, 3, 3, 2, 3},
        {1, 3, 3, 1, 1}, {10, 0, 20, 0, 0}, {10, 20, 0, 10, 10}, {10, 1, 20, 1, 1}, {10, 20, 1, 10, 10},
        {100, 30, 90, 25, 30}, {0, 999999, 999999, 0, 0}, {999999, 999999, 999999, 500000, 999999},
        {999998, 1, 999999, 1, 1}, {999999, 0, 0, 0, 0}, {8, 5, 100, 1, 5}, {1, 1, 999999, 1, 1}};
    for (int[] due : dues) {
      String what = "50: split " + due[0] + " " + due[1] + " " + due[2];
      Check.due(what + " shared", x.split(due[0], due[1], due[2], true), due[3]);
      Check.due(what, x.split(due[0], due[1], due[2], false), due[4]);
    }
    int[][] wrong = {{-1, 1, 1}, {1000000, 1, 1}, {1, -1, 1}, {1, 1000000, 1}, {1, 1, -1}, {1, 1, 1000000},
        {MIN, MIN, MIN}, {MAX, MAX, MAX}};
    for (int[] w : wrong) {
      Check.argument(x, "50: split " + Arrays.toString(w), () -> x.split(w[0], w[1], w[2], true));
      Check.argument(x, "50: split " + Arrays.toString(w), () -> x.split(w[0], w[1], w[2], false));
    }
  }

  private static void promise51and52() {
    Daycounthouse x = new Daycounthouse();
    Check.due("52: an empty one", x.wipe(), 0);
    for (int i = 1; i <= 14; i++) {
      Check.due("51: the sign " + i, x.type(i + 2), i);
    }
    Check.state(x, "51: a fifteenth", () -> x.type(0));
    for (int sign : new int[] {-1, 17, MIN, MAX}) {
      Check.argument(x, "51: the argument goes first, type(" + sign + ")", () -> x.type(sign));
    }
    Check.due("52: wipe()", x.wipe(), 14);
    Check.due("52: wipe() again", x.wipe(), 0);
    Check.due("51: type(0)", x.type(0), 1);
    for (int sign : new int[] {-1, 17, MIN, MAX}) {
      Check.argument(x, "51: type(" + sign + ")", () -> x.type(sign));
    }
    Check.due("51, 52: no changes", x.house(10), 0);
  }

  private static void type(Daycounthouse x, String text) {
    x.wipe();
    for (char c : text.toCharArray()) {
      x.type(SIGNS.indexOf(c));
    }
  }

  private static void promise53() {
    String[] dues = {" 0", "L 1", "B 1", "LL 1", "LB 1", "1 0", ", 0", "a 0", "% 0", "L0 1", "L, 1", "L1 2", "L10 3",
        "L1% 2", "L1a 2", "L123456 7", "L1234567 7", "L123456,1 9", "L1, 3", "L1,% 3", "L1,0 4", "L1,0000 7",
        "L1,00000 7", "L1,0000% 8", "L1,0,1 4", "L1,0% 5", "L1,0%a -1", "L1,0%p -1", "L1,0%e -1", "L1,0%1 5",
        "L1,0%% 5", "L1,0%L 5", "L1,0%aa 6", "L1,0%a1 6", "L123456,1234%e -1", "B1,0% -1", "B1,0%a 5", "B1,0%% 5",
        "B1,0 4", "B1,0a 4", "B999999,9999% -1", "B0 1", "LLLLLLLLLLLLLL 1", "L1,0%aaaaaaaa 6"};
    Daycounthouse x = new Daycounthouse();
    for (String due : dues) {
      String text = due.substring(0, due.indexOf(' '));
      type(x, text);
      Check.due("53: fault of " + text, x.fault(), Integer.parseInt(due.substring(due.indexOf(' ') + 1)));
    }
  }

  private static void promise54() {
    Daycounthouse x = new Daycounthouse();
    for (String text : new String[] {"", "1", "L", "B", "L1,0%a", "B1,0%"}) {
      type(x, text);
      Check.state(x, "54: without a row, terms of " + text, x::terms);
    }
    x.schedule(0, 366, 12, false, false, 0);
    for (String text : new String[] {"", "1", "L", "B", "L1,0%", "B1,0"}) {
      type(x, text);
      Check.due("54: terms of " + text, x.terms(), -9);
    }
    Check.due("54: refused, no change", x.house(10), 1);
    type(x, "L10000,0720%p");
    Check.due("54: a loan", x.terms(), 0);
    Check.due("54: it stays there", x.fault(), -1);
    Check.due("54: its amount, rate, interest by count 0", x.all(0, 1) + " " + x.planned(0, 1, 5) + " " + x.all(0, 0),
        "10000 720 732");
    type(x, "B2000,500%");
    Check.due("54: a bond", x.terms(), 0);
    Check.due("54: its face and coupon", x.flow(0, 1, 2) + " " + x.flow(0, 1, 1), "2000 100");
    Check.due("54: changes", x.house(10), 3);
    x.schedule(0, 91, 1, false, false, 0);
    type(x, "L900,1200%a");
    Check.due("54: a", x.terms(), 1);
    type(x, "L900,1200%e");
    Check.due("54: e", x.terms(), 2);
    Check.due("54: kind 0, a payment of 306", x.planned(1, 2, 1) + x.planned(1, 2, 2), 306);
    Check.due("54: kind 2", x.planned(2, 2, 2) + " " + x.planned(2, 3, 2), "0 900");
    Check.state(x, "54: a fourth loan", x::terms);
    type(x, "L");
    Check.state(x, "54: a fourth loan, with a fault", x::terms);
    type(x, "");
    Check.due("54: an empty one", x.terms(), -9);
    type(x, "B1,1%");
    Check.due("54: a bond", x.terms() + " " + x.terms(), "1 2");
    Check.state(x, "54: a fourth bond", x::terms);
    type(x, "BB");
    Check.state(x, "54: a fourth bond, with a fault", x::terms);
    type(x, "7");
    Check.due("54: neither", x.terms(), -9);
  }

  public static void main(String[] args) {
    promise44();
    promise45();
    promise46to49();
    promise50();
    promise51and52();
    promise53();
    promise54();
    Check.finish("CurveTest");
  }

  private CurveTest() {}
}
