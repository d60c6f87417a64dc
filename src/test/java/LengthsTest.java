/** Promises 4 to 7, 10 and 15: how TOTAL, depth, stretch and shrink grow, and the bounds of TOP and DEPTH. */
public final class LengthsTest {
  public static void main(String[] args) {
    eachKind();
    depthAndTheGreatest();
    depthWaits();
    firstBoxAndTop();
    topBehindOtherItems();
    topOfEachPage();
    greatSums();
    Due.end();
  }

  private static void eachKind() {
    PageBuilder x = new PageBuilder();
    x.set(1000, 5, 0);
    Due.of(4, "TOTAL grows by the depth and its height, depth is its depth");
    x.box(10, 3);
    x.run();
    Due.now("box", x, 1, 10, 1000, 3);
    x.box(20, 4);
    x.run();
    Due.now("box", x, 2, 33, 1000, 4);
    Due.of(5, "TOTAL by the depth and the natural length, depth is 0; glue adds stretch and shrink");
    x.glue(-4, 6, 2, 8);
    x.run();
    Due.now("glue", x, 3, 33, 1000, 0, 0, 0, 6, 0, 8);
    Due.of(6, "TOTAL by the depth and the kern, depth is 0");
    x.box(0, 5);
    x.kern(-7);
    x.glue(0, 2, 2, 1);
    x.run();
    Due.now("kern", x, 6, 31, 1000, 0, 0, 0, 8, 0, 9);
    Due.of(5, "stretch to that of its order");
    x.glue(0, 1, 0, 0);
    x.glue(0, 3, 1, 0);
    x.glue(0, 5, 3, 0);
    x.run();
    Due.now("stretch of each order", x, 9, 31, 1000, 0, 1, 3, 8, 5, 9);
  }

  private static void depthAndTheGreatest() {
    Due.of(4, "if depth is more than the greatest one, TOTAL grows by what it is more, and depth is that one");
    int[][] rows = {{5, 4, 10, 4}, {5, 5, 10, 5}, {5, 6, 11, 5}, {5, 1000000, 1000005, 5}, {0, 0, 10, 0},
        {0, 1, 11, 0}, {10000000, 1000000, 10, 1000000}};
    for (int[] row : rows) {
      PageBuilder x = new PageBuilder();
      x.set(1000, row[0], 0);
      x.box(10, row[1]);
      x.run();
      Due.now("depth " + row[1] + " of " + row[0], x, 1, row[2], 1000, row[3]);
    }
  }

  private static void depthWaits() {
    Due.of(15, "mark, penalty and insert leave TOTAL and depth");
    PageBuilder x = new PageBuilder();
    x.set(1000, 5, 0);
    x.cls(100, 1000, 0, 0);
    x.box(1, 2);
    x.mark(1);
    x.penalty(10000);
    x.insert(0, 30, false);
    x.penalty(50);
    x.run();
    Due.now("mark, penalties, insert", x, 5, 1, 970, 2, 0, 0, 0, 0, 0, Due.BAD);
    Due.of(10, "b is of TOTAL, without the depth");
    x = new PageBuilder();
    x.set(100, 5, 0);
    x.box(100, 5);
    x.penalty(7);
    x.run();
    Due.equal("TOTAL is GOAL", x.now(9), 7);
    x.box(0, 0);
    x.run();
    Due.now("the depth counts with the next box", x, 3, 105, 100, 0);
  }

  private static void firstBoxAndTop() {
    Due.of(4, "at the page's first one TOTAL grows by what its height is less than TOP (else nothing)");
    int[][] rows = {{20, 0, 20}, {20, 19, 20}, {20, 20, 20}, {20, 21, 21}, {0, 0, 0}, {0, 1, 1},
        {10000000, 1000000, 10000000}};
    for (int[] row : rows) {
      PageBuilder x = new PageBuilder();
      x.set(1000, 10, row[0]);
      x.box(row[1], 3);
      x.run();
      Due.now("height " + row[1] + ", TOP " + row[0], x, 1, row[2], 1000, 3);
      x.box(2, 0);
      x.run();
      Due.now("the second box", x, 2, row[2] + 5, 1000, 0);
    }
  }

  private static void topBehindOtherItems() {
    Due.of(4, "the page's first box, not its first item");
    PageBuilder x = new PageBuilder();
    x.set(1000, 0, 20);
    x.cls(100, 1000, 0, 0);
    x.mark(1);
    x.insert(0, 5, false);
    x.glue(50, 0, 0, 0);
    x.mark(2);
    x.box(12, 0);
    x.box(12, 0);
    x.run();
    Due.now("two boxes", x, 5, 32, 995, 0);
  }

  private static void topOfEachPage() {
    Due.of(4, "at the page's first one: of each page");
    PageBuilder x = new PageBuilder();
    x.set(1000, 0, 20);
    for (int i = 0; i < 3; i++) {
      x.box(15, 0);
      x.box(15, 0);
      x.penalty(-10000);
    }
    Due.equal("run()", x.run(), 3);
    for (int i = 0; i < 3; i++) {
      Due.equal("told(" + i + ", 1)", x.told(i, 1), 35);
    }
  }

  private static void greatSums() {
    Due.of(13, "sums of lengths: the greatest that can be");
    PageBuilder x = new PageBuilder();
    x.set(0, 0, 10000000);
    for (int i = 0; i < 399; i++) {
      x.box(1000000, 1000000);
    }
    x.penalty(-10000);
    Due.equal("run()", x.run(), 1);
    Due.told("boxes", x, 0, 399, 807000000, 0, 0, 0, 0, 0, 0, 0, Due.AWFUL, -10000);
    Due.of(15, "sums of lengths: the greatest that can be");
    x = new PageBuilder();
    x.box(0, 0);
    x.penalty(10000);
    for (int i = 0; i < 398; i++) {
      x.glue(-1000000, 1000000, 3, 1000000);
    }
    Due.equal("run()", x.run(), 0);
    Due.now("glue", x, 400, -398000000, 1000, 0, 0, 0, 0, 398000000, 398000000, Due.NO_COST);
  }
}
