/** Promises 10 to 14 and 18: what a page has when it ends, what goes back to the line, and what goes. */
public final class PageEndTest {
  public static void main(String[] args) {
    allBeforeTheBreak();
    whatIsBehindGoesBack();
    penaltyAtTheBreakGoes();
    penaltyBehindTheBreakStays();
    glueAtTheBreakStays();
    insertsBehindTheBreak();
    insertsBeforeTheBreak();
    theirOrder();
    wholeInsertsStayThere();
    theNextPageBegins();
    marksOfPages();
    marksBehindTheBreak();
    Due.end();
  }

  private static PageBuilder withGoal(int goal) {
    PageBuilder x = new PageBuilder();
    x.set(goal, 0, 0);
    return x;
  }

  private static void allBeforeTheBreak() {
    Due.of(11, "it has all items before THE BREAK that are on it");
    PageBuilder x = withGoal(100);
    x.cls(50, 1000, 0, 0);
    x.penalty(5);
    x.insert(0, 10, true);
    x.mark(1);
    x.box(10, 0);
    x.penalty(10000);
    x.glue(1, 0, 0, 0);
    x.kern(2);
    x.mark(2);
    x.penalty(-10000);
    Due.equal("run()", x.run(), 1);
    Due.items("of each kind", x, 0, 1, 2, 3, 4, 5, 6, 7);
    Due.of(10, "the least page: a box");
    x = withGoal(100);
    x.box(0, 0);
    x.penalty(-10000);
    Due.equal("run()", x.run(), 1);
    Due.items("one item", x, 0, 0);
  }

  private static void whatIsBehindGoesBack() {
    Due.of(10, "those from there on, with all that are on it behind, go back to the line's front, in their order");
    PageBuilder x = withGoal(100);
    x.box(90, 0);
    x.glue(10, 0, 0, 0);
    x.mark(5);
    x.kern(3);
    x.penalty(10000);
    x.box(50, 0);
    x.box(1, 0);
    x.mark(6);
    x.glue(0, 0, 0, 0);
    Due.equal("run()", x.run(), 1);
    Due.items("before the glue", x, 0, 0);
    Due.now("mark, boxes, mark, glue", x, 5, 51, 100, 0, 0, 0, 0, 0, 0, Due.BAD, 0, 0, -1, 0);
    x.penalty(-10000);
    Due.equal("run()", x.run(), 1);
    Due.items("in their order", x, 1, 2, 5, 6, 7, 8);
    Due.of(18, "each item stands just once");
    Due.equal("check()", x.check(), 1);
  }

  /** 60 pages end, so that what is in the line can be seen: none of it is taken. */
  private static PageBuilder fiftyNine(int goal) {
    PageBuilder x = withGoal(goal);
    x.cls(3, 1000, 0, 10);
    x.cls(0, 1000, 0, 10);
    for (int i = 0; i < 59; i++) {
      x.box(1, 0);
      x.penalty(-10000);
    }
    Due.equal("59 pages", x.run(), 59);
    return x;
  }

  private static void penaltyAtTheBreakGoes() {
    Due.of(10, "but a penalty at which it breaks goes");
    PageBuilder x = fiftyNine(100);
    x.box(1, 0);
    x.penalty(-10000);
    x.penalty(-10000);
    x.penalty(4);
    Due.equal("run()", x.run(), 1);
    Due.equal("two are left", x.now(11), 2);
    Due.equal("the first of them", x.now(12), 120);
    Due.equal("check()", x.check(), 1);
    Due.of(10, "but a penalty at which it breaks goes: where the break is before the place that ends the page");
    x = fiftyNine(100);
    x.box(100, 0);
    x.penalty(3);
    x.box(1, 0);
    x.penalty(4);
    Due.equal("run()", x.run(), 1);
    Due.items("the first penalty", x, 59, 118);
    Due.equal("box and penalty are left", x.now(11), 2);
    Due.equal("the first of them", x.now(12), 120);
    Due.equal("check()", x.check(), 1);
  }

  private static void penaltyBehindTheBreakStays() {
    Due.of(10, "a penalty behind the one at which it breaks goes back");
    PageBuilder x = fiftyNine(100);
    x.box(100, 0);
    x.penalty(3);
    x.penalty(4);
    x.penalty(10000);
    x.box(1, 0);
    x.glue(0, 0, 0, 0);
    Due.equal("run()", x.run(), 1);
    Due.items("the first penalty", x, 59, 118);
    Due.equal("penalties, box and glue are left", x.now(11), 4);
    Due.equal("the first of them", x.now(12), 120);
    Due.equal("check()", x.check(), 1);
  }

  private static void glueAtTheBreakStays() {
    Due.of(10, "those from there on go back: glue and kern at which it breaks, too");
    for (int kerns = 0; kerns < 2; kerns++) {
      PageBuilder x = fiftyNine(100);
      x.box(200, 0);
      if (kerns == 1) {
        x.kern(1);
      }
      x.glue(1, 0, 0, 0);
      x.box(3, 0);
      Due.equal("run()", x.run(), 1);
      Due.items("the box", x, 59, 118);
      Due.equal("how many are left", x.now(11), 2 + kerns);
      Due.equal("the first of them", x.now(12), 119);
      Due.equal("check()", x.check(), 1);
    }
  }

  private static void insertsBehindTheBreak() {
    Due.of(10, "inserts as they were told: cut on the page behind the break, whole on the next");
    PageBuilder x = withGoal(100);
    x.cls(50, 1000, 0, 10);
    x.box(60, 0);
    x.penalty(0);
    x.insert(0, 50, true);
    x.run();
    Due.now("40 of it stand", x, 3, 60, 60, 0, 0, 0, 0, 0, 0, Due.BAD, 10);
    x.insert(0, 1, true);
    x.box(200, 0);
    x.penalty(0);
    Due.equal("run()", x.run(), 2);
    Due.items("the box", x, 0, 0);
    Due.told("nothing of it stands", x, 0, 1, 60, 100, 0, 0, 0, 0, 0, 0, Due.BAD, 0, 0);
    Due.items("both inserts and the second box", x, 1, 2, 3, 4);
    Due.parts("the first is whole, the second has no room", x, 1, 50, 0, 0);
    Due.of(15, "what is left of its height: of one that goes back as it was told");
    x = fiftyNine(100);
    x.box(98, 0);
    x.penalty(0);
    x.insert(0, 40, true);
    x.insert(0, 41, true);
    x.box(200, 0);
    x.penalty(0);
    Due.equal("run()", x.run(), 1);
    Due.items("the box", x, 59, 118);
    Due.now("all of it", x, 0, 0, 100, 0, 0, 0, 0, 0, 0, Due.NO_COST, 0, 4, 120, 40);
    Due.equal("check()", x.check(), 1);
  }

  private static void insertsBeforeTheBreak() {
    Due.of(15, "what is left of its height: cut");
    PageBuilder x = fiftyNine(100);
    x.insert(0, 4, true);
    x.box(10, 0);
    x.penalty(-10000);
    Due.equal("run()", x.run(), 1);
    Due.parts("3 stand", x, 59, 3, 0);
    Due.now("1 is left", x, 0, 0, 100, 0, 0, 0, 0, 0, 0, Due.NO_COST, 0, 1, 118, 1);
    Due.equal("check()", x.check(), 1);
    Due.of(15, "what is left of its height: held");
    x = fiftyNine(100);
    x.insert(1, 4, true);
    x.box(10, 0);
    x.penalty(-10000);
    Due.equal("run()", x.run(), 1);
    Due.items("it is on the page", x, 59, 118, 119);
    Due.parts("nothing stands", x, 59, 0, 0);
    Due.now("all is left", x, 0, 0, 100, 0, 0, 0, 0, 0, 0, Due.NO_COST, 0, 1, 118, 4);
    Due.equal("check()", x.check(), 1);
    Due.of(12, "How much stands there: the rest of an insert, down to 1");
    x = withGoal(100);
    x.cls(3, 1000, 0, 10);
    x.insert(0, 7, true);
    for (int i = 0; i < 4; i++) {
      x.box(10, 0);
      x.penalty(-10000);
    }
    Due.equal("run()", x.run(), 4);
    int[] stand = {3, 3, 1};
    for (int page = 0; page < 3; page++) {
      Due.items("with the insert", x, page, 0, 1 + 2 * page);
      Due.parts("with the insert", x, page, stand[page], 0);
    }
    Due.items("without it", x, 3, 7);
    Due.equal("check()", x.check(), 1);
  }

  private static void theirOrder() {
    Due.of(10, "before them all inserts of the page that were cut or held, in their order");
    PageBuilder x = withGoal(100);
    x.cls(30, 1000, 0, 0);
    x.cls(0, 1000, 0, 0);
    x.box(10, 0);
    x.insert(0, 50, true);
    x.insert(1, 5, false);
    x.insert(0, 7, true);
    x.mark(3);
    x.penalty(0);
    x.insert(0, 9, true);
    x.insert(1, 4, true);
    x.box(100, 0);
    x.penalty(0);
    Due.equal("run()", x.run(), 2);
    Due.items("first", x, 0, 0, 1, 2, 3, 4);
    Due.parts("first", x, 0, 0, 30, 0, 0, 0);
    Due.told("first", x, 0, 5, 10, 70, 0, 0, 0, 0, 0, 0, Due.BAD, 0, 30, 0, 0, 0);
    Due.items("second", x, 1, 1, 2, 3, 6, 7, 8);
    Due.parts("second", x, 1, 20, 0, 7, 3, 0, 0);
    Due.told("second", x, 1, 6, 100, 70, 0, 0, 0, 0, 0, 0, Due.AWFUL, 0, 30, 0, 0, 0);
    Due.now("three inserts", x, 3, 0, 94, 0, 0, 0, 0, 0, 0, Due.NO_COST, 0, 0, -1, 0);
    Due.equal("check()", x.check(), 1);
    x.box(1, 0);
    x.penalty(-10000);
    x.run();
    Due.items("third", x, 2, 2, 6, 7, 10);
    Due.parts("third", x, 2, 0, 6, 0, 0);
    Due.of(18, "their parts with what is left are their height");
    Due.equal("check()", x.check(), 1);
  }

  private static void wholeInsertsStayThere() {
    Due.of(10, "inserts that stand whole do not go back");
    PageBuilder x = fiftyNine(100);
    x.insert(0, 3, true);
    x.insert(1, 9, true);
    x.box(10, 0);
    x.penalty(-10000);
    Due.equal("run()", x.run(), 1);
    Due.items("both and the box", x, 59, 118, 119, 120);
    Due.now("the held one alone", x, 0, 0, 100, 0, 0, 0, 0, 0, 0, Due.NO_COST, 0, 1, 119, 9);
    Due.equal("check()", x.check(), 1);
  }

  private static void theNextPageBegins() {
    Due.of(10, "The next page begins at once, EMPTY");
    PageBuilder x = new PageBuilder();
    x.set(1000, 5, 0);
    for (int cls = 0; cls < 4; cls++) {
      x.cls(10 + cls, 1000, 1 + cls, 30);
    }
    x.box(20, 3);
    for (int i = 0; i < 4; i++) {
      x.insert(i, 12 + i, true);
      x.glue(1, 2 + i, i, 3);
    }
    x.box(20, 3);
    x.penalty(-10000);
    x.kern(0);
    Due.equal("run()", x.run(), 1);
    Due.of(13, "stretch of orders 0 .. 3 (4 .. 7), what stands of the inserts of class 0 .. 3 (11 .. 14)");
    Due.told("each order and class", x, 0, 10, 47, 944, 3, 2, 3, 4, 5, 12, -10000, -10000, 10, 11, 12, 13);
    Due.of(10, "The next page begins at once, EMPTY: each class has its SKIP and ROOM anew, none is held");
    Due.now("2 of each class", x, 4, 0, 982, 0, 0, 0, 0, 0, 0, Due.NO_COST, 0, 0, -1, 0);
    for (int i = 0; i < 4; i++) {
      x.insert(i, 8 + i, false);
    }
    x.box(1, 0);
    x.run();
    Due.now("as much as there is room", x, 9, 1, 944, 0, 0, 0, 0, 0, 0, Due.NO_COST, 0, 0, -1, 0);
    x.penalty(-10000);
    Due.equal("run()", x.run(), 1);
    Due.told("the second", x, 1, 9, 1, 944, 0, 0, 0, 0, 0, 0, -10000, -10000, 10, 11, 12, 13);
    Due.now("empty", x, 0, 0, 1000, 0, 0, 0, 0, 0, 0, Due.NO_COST, 0, 0, -1, 0);
  }

  private static void marksOfPages() {
    PageBuilder x = new PageBuilder();
    int[][] of = {{}, {4, 5, 6}, {}, {}, {Integer.MIN_VALUE}, {0, Integer.MAX_VALUE}, {0}, {}};
    for (int[] row : of) {
      x.box(1, 0);
      for (int v : row) {
        x.mark(v);
      }
      x.penalty(-10000);
    }
    x.mark(77);
    Due.of(14, "TOP is BOTTOM of the one before (0 before the first), FIRST and BOTTOM those of the first and last");
    Due.equal("run()", x.run(), 8);
    Due.marks("no mark yet", x, 0, 0, 0, 0);
    Due.marks("three", x, 1, 0, 4, 6);
    Due.of(14, "TOP when there is none");
    Due.marks("none", x, 2, 6, 6, 6);
    Due.marks("none again", x, 3, 6, 6, 6);
    Due.of(14, "MARKS (any int)");
    Due.marks("the least", x, 4, 6, Integer.MIN_VALUE, Integer.MIN_VALUE);
    Due.marks("the greatest", x, 5, Integer.MIN_VALUE, 0, Integer.MAX_VALUE);
    Due.of(14, "a mark of 0 is a mark");
    Due.marks("zero", x, 6, Integer.MAX_VALUE, 0, 0);
    Due.marks("none behind zero", x, 7, 0, 0, 0);
    Due.of(14, "a mark before the first box is on the page");
    x = new PageBuilder();
    x.mark(8);
    x.box(1, 0);
    x.penalty(-10000);
    x.run();
    Due.marks("before the box", x, 0, 0, 8, 8);
  }

  private static void marksBehindTheBreak() {
    Due.of(14, "those of the first and last mark on it: what goes back is not on it");
    PageBuilder x = withGoal(100);
    x.box(100, 0);
    x.mark(1);
    x.penalty(0);
    x.mark(2);
    x.box(1, 0);
    x.penalty(0);
    Due.equal("run()", x.run(), 1);
    Due.marks("the first alone", x, 0, 0, 1, 1);
    x.penalty(-10000);
    Due.equal("run()", x.run(), 1);
    Due.marks("the second", x, 1, 1, 2, 2);
  }
}
