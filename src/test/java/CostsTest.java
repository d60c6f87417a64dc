/** Promises 10, 13 and 15: what a break costs, which one is THE BREAK, and where a page ends. */
public final class CostsTest {
  public static void main(String[] args) {
    moreThanTheGoal();
    lessThanTheGoal();
    badnessBelowTenThousand();
    forcedPrice();
    insertedTogether();
    insertedOfTenThousand();
    theBreak();
    firstPlaceMayBeAwful();
    anAwfulPlaceEndsThePage();
    forcedEndsThePage();
    toldAtTheBreak();
    Due.end();
  }

  /** A page of this GOAL and TOTAL with one glue, on which no place to break was yet. */
  private static PageBuilder page(int goal, int total, int stretch, int order, int shrink) {
    PageBuilder x = new PageBuilder();
    x.set(goal, 0, 0);
    x.box(10, 0);
    x.penalty(10000);
    x.glue(total - 10, stretch, order, shrink);
    x.run();
    Due.equal("TOTAL", x.now(1), total);
    Due.equal("no place yet", x.now(9), Due.NO_COST);
    return x;
  }

  /** COST at a penalty behind all that is on the page: of the page that it ends, or of the one that is made. */
  private static void cost(String name, PageBuilder x, int price, long want) {
    x.penalty(price);
    boolean ends = want == Due.AWFUL || price == -10000;
    Due.equal(name + ": run()", x.run(), ends ? 1 : 0);
    Due.equal(name + ": COST", ends ? x.told(0, 9) : x.now(9), want);
    Due.equal(name + ": check()", x.check(), 1);
  }

  private static void moreThanTheGoal() {
    Due.of(10, "b is AWFUL, if TOTAL less GOAL is more than the shrink");
    cost("as much as the shrink", page(100, 110, 0, 0, 10), 0, 100);
    cost("1 more than the shrink", page(100, 111, 0, 0, 10), 0, Due.AWFUL);
    cost("1 less than the shrink", page(100, 109, 0, 0, 10), 0, 73);
    cost("1 more, no shrink", page(100, 101, 0, 0, 0), 0, Due.AWFUL);
    cost("the greatest shrink", page(0, 1000000, 0, 0, 1000000), 0, 100);
    cost("stretch is no help", page(100, 101, 50, 1, 0), 0, Due.AWFUL);
    Due.of(10, "else, if TOTAL is GOAL or more, the BADNESS of what it is more by the shrink");
    cost("TOTAL is GOAL, no shrink", page(100, 100, 0, 0, 0), 7, 7);
    cost("TOTAL is GOAL, some shrink", page(100, 100, 0, 0, 9), 7, 7);
    cost("TOTAL and GOAL are 0", page(0, 0, 0, 0, 0), 7, 7);
    cost("1 more, with stretch of order 1", page(100, 101, 50, 1, 1), 7, 107);
  }

  private static void lessThanTheGoal() {
    Due.of(10, "else 0, if stretch of order 1, 2 or 3 is not 0");
    for (int order = 1; order <= 3; order++) {
      cost("stretch of order " + order, page(100, 99, 1, order, 0), 7, 7);
      cost("far less, order " + order, page(10000000, 0, 1, order, 0), 7, 7);
      cost("none of order " + order, page(100, 99, 0, order, 0), 7, Due.BAD);
    }
    Due.of(10, "or the BADNESS of what it is less by that of order 0");
    cost("1 less by 1", page(100, 99, 1, 0, 0), 7, 107);
    cost("1 less by 0", page(100, 99, 0, 0, 0), 7, Due.BAD);
    cost("shrink is no help", page(100, 99, 0, 0, 50), 7, Due.BAD);
    cost("below 0", page(0, -100, 100, 0, 0), 7, 107);
    Due.of(10, "less than the GOAL by more than 7230584: the BADNESS of great lengths");
    PageBuilder x = page(7230594, 10, 1000000, 0, 0);
    x.glue(0, 664981, 0, 0);
    cost("7230584 by 1664981", x, 0, 8170);
    x = page(7230595, 10, 1000000, 0, 0);
    x.glue(0, 664981, 0, 0);
    cost("7230585 by 1664981", x, 0, 8189);
  }

  private static void badnessBelowTenThousand() {
    Due.of(10, "b, price and INSERTED together, if b is below 10000; else 100000");
    cost("b is 8189", page(2000, 710, 297, 0, 0), 5, 8194);
    cost("b is 10000", page(2000, 709, 297, 0, 0), 5, Due.BAD);
    cost("b is 8189, the least price", page(2000, 710, 297, 0, 0), -9999, -1810);
    cost("b is 10000, the least price", page(2000, 709, 297, 0, 0), -9999, Due.BAD);
    cost("b is 8189, the greatest price", page(2000, 710, 297, 0, 0), 9999, 18188);
    cost("b is 10000, the greatest price", page(2000, 709, 297, 0, 0), 9999, Due.BAD);
    cost("b is 0, the least price", page(100, 100, 0, 0, 0), -9999, -9999);
  }

  private static void forcedPrice() {
    Due.of(10, "c is the price, if that is -10000");
    cost("b is 0", page(100, 100, 0, 0, 0), -10000, -10000);
    cost("b is 100", page(100, 99, 1, 0, 0), -10000, -10000);
    cost("b is 10000", page(100, 99, 0, 0, 0), -10000, -10000);
    Due.of(10, "c is AWFUL, if b is: the price is not looked at");
    PageBuilder x = page(100, 101, 0, 0, 0);
    cost("b is AWFUL", x, -10000, Due.AWFUL);
    Due.of(13, "the price there");
    Due.equal("told(0, 10)", x.told(0, 10), -10000);
  }

  /** TOTAL is GOAL, and inserts that do not stand have taken these penalties. */
  private static PageBuilder inserted(int... penalties) {
    PageBuilder x = page(100, 100, 0, 0, 0);
    for (int penalty : penalties) {
      x.insert(x.cls(0, 0, 0, penalty), 1, true);
    }
    x.run();
    return x;
  }

  private static void insertedTogether() {
    Due.of(10, "b, price and INSERTED together");
    PageBuilder x = page(100, 99, 1, 0, 0);
    x.insert(x.cls(0, 0, 0, 1000), 1, true);
    cost("100, 30 and 1000", x, 30, 1130);
    cost("0, -50 and 70", inserted(70), -50, 20);
    cost("0, 9999 and 9999", inserted(9999), 9999, 19998);
    Due.of(10, "if b is below 10000; else 100000, whatever INSERTED is");
    x = page(100, 99, 0, 0, 0);
    x.insert(x.cls(0, 0, 0, 9999), 1, true);
    cost("b is 10000", x, 30, Due.BAD);
  }

  private static void insertedOfTenThousand() {
    Due.of(10, "c is AWFUL, if INSERTED is 10000 or more");
    cost("9999", inserted(9999), 0, 9999);
    cost("9998 and 1", inserted(9998, 1), 0, 9999);
    cost("10000", inserted(10000), 0, Due.AWFUL);
    cost("9999 and 1", inserted(9999, 1), 0, Due.AWFUL);
    cost("9999 and 2", inserted(9999, 2), 0, Due.AWFUL);
    cost("10000 and a price", inserted(10000), -9999, Due.AWFUL);
    cost("9999, forced", inserted(9999), -10000, -10000);
    cost("10000, forced", inserted(10000), -10000, Due.AWFUL);
    cost("four times 10000, forced", inserted(10000, 10000, 10000, 10000), -10000, Due.AWFUL);
    Due.of(15, "INSERTED");
    Due.equal("now(10)", inserted(10000, 10000, 10000, 10000).now(10), 40000);
  }

  /** Places of these prices on a page that can be stretched, each behind a box; then one that is awful. */
  private static PageBuilder ended(int stretch, int... prices) {
    PageBuilder x = new PageBuilder();
    x.set(1000, 0, 0);
    x.box(10, 0);
    x.penalty(10000);
    x.glue(0, stretch, 1, 0);
    for (int price : prices) {
      x.box(10, 0);
      x.penalty(price);
    }
    x.box(2000, 0);
    x.penalty(0);
    x.run();
    return x;
  }

  private static void theBreak() {
    Due.of(10, "If c is not more than COST, this is THE BREAK");
    Due.equal("as much as before: later", ended(1, 5, 5).told(0, 0), 6);
    Due.equal("1 more: the one before", ended(1, 5, 6).told(0, 0), 4);
    Due.equal("1 less: later", ended(1, 6, 5).told(0, 0), 6);
    Due.equal("less, then more, then as much", ended(1, 7, 5, 6, 5).told(0, 0), 10);
    Due.equal("less, then more, then between", ended(1, 7, 4, 6, 5).told(0, 0), 6);
    Due.equal("COST of it", ended(1, 7, 4, 6, 5).told(0, 9), 4);
    Due.equal("100000 twice: later", ended(0, 5, 5).told(0, 0), 6);
    Due.equal("100000 of any price: later", ended(0, 5, 9).told(0, 0), 6);
    Due.of(10, "AWFUL is more than all");
    Due.equal("100000 before it", ended(0, 5).told(0, 9), Due.BAD);
    Due.equal("19998 before it", ended(1, 9999).told(0, 9), 9999);
    Due.equal("none before it", ended(1).told(0, 9), Due.AWFUL);
    Due.equal("none before it: items", ended(1).told(0, 0), 4);
  }

  private static void firstPlaceMayBeAwful() {
    Due.of(10, "If no place was before, this is THE BREAK, c is COST");
    PageBuilder x = new PageBuilder();
    x.set(100, 0, 0);
    x.box(101, 0);
    x.glue(0, 0, 0, 0);
    Due.equal("run()", x.run(), 1);
    Due.items("the box alone", x, 0, 0);
    Due.told("awful", x, 0, 1, 101, 100, 0, 0, 0, 0, 0, 0, Due.AWFUL, 0, 0, 0, 0, 0);
    Due.now("the glue went", x, 0, 0, 100, 0, 0, 0, 0, 0, 0, Due.NO_COST, 0, 0, -1, 0);
  }

  private static void anAwfulPlaceEndsThePage() {
    Due.of(10, "Then, if c is AWFUL, the page ENDS: what would be better behind it is not looked for");
    PageBuilder x = new PageBuilder();
    x.set(100, 0, 0);
    x.box(200, 0);
    x.penalty(0);
    x.kern(-100);
    x.penalty(-50);
    x.box(100, 0);
    x.penalty(-50);
    Due.equal("run()", x.run(), 1);
    Due.items("the first box alone", x, 0, 0);
    Due.equal("its COST", x.told(0, 9), Due.AWFUL);
    Due.now("kern and penalty went", x, 2, 100, 100, 0, 0, 0, 0, 0, 0, -50, 0, 0, -1, 0);
    Due.of(10, "a cost of 100000 does not end the page");
    x = page(1000, 100, 0, 0, 0);
    cost("bad", x, 0, Due.BAD);
    Due.equal("the penalty is on the page", x.now(0), 4);
  }

  private static void forcedEndsThePage() {
    Due.of(10, "Then, if the price is -10000, the page ENDS");
    PageBuilder x = page(100, 20, 0, 0, 0);
    cost("-9999 does not end it", x, -9999, Due.BAD);
    x.box(80, 0);
    x.penalty(-9999);
    Due.equal("nor at the GOAL", x.run(), 0);
    Due.equal("its COST", x.now(9), -9999);
    x.penalty(-10000);
    Due.equal("-10000 does", x.run(), 1);
    Due.told("forced", x, 0, 6, 100, 100, 0, 0, 0, 0, 0, 0, -10000, -10000);
    Due.of(10, "if the price is -10000, the page ENDS, where a place before is THE BREAK");
    x = new PageBuilder();
    x.set(100, 0, 0);
    x.box(90, 0);
    x.penalty(0);
    x.box(20, 0);
    x.penalty(-10000);
    Due.equal("run()", x.run(), 2);
    Due.items("the place before", x, 0, 0);
    Due.items("the penalty forces again", x, 1, 2);
    Due.told("forced again", x, 1, 1, 20, 100, 0, 0, 0, 0, 0, 0, -10000, -10000);
  }

  private static void toldAtTheBreak() {
    Due.of(13, "at THE BREAK: not where the page ended");
    PageBuilder x = new PageBuilder();
    x.set(100, 4, 0);
    int cls = x.cls(50, 1000, 3, 0);
    x.insert(cls, 7, true);
    x.box(40, 2);
    x.glue(5, 6, 0, 1);
    x.glue(0, 5, 1, 2);
    x.box(10, 3);
    x.penalty(-20);
    x.insert(cls, 9, true);
    x.insert(x.cls(50, 1000, 3, 0), 4, true);
    x.glue(1, 5, 2, 8);
    x.glue(1, 5, 3, 8);
    x.box(80, 9);
    x.penalty(0);
    Due.equal("run()", x.run(), 2);
    Due.items("before the penalty", x, 0, 0, 1, 2, 3, 4);
    Due.told("at the penalty", x, 0, 5, 57, 90, 3, 6, 5, 0, 0, 3, -20, -20, 7, 0, 0, 0, -1);
    Due.items("the rest, without the glue", x, 1, 6, 7, 10);
    Due.told("the rest", x, 1, 3, 85, 81, 4, 0, 0, 0, 0, 0, Due.AWFUL, 0, 9, 4, 0, 0, -1);
  }
}
