/** Promises 11 to 18: all that is asked of pages and of the line, on ordinary ones; the edges are in other tests. */
public final class AnswersTest {
  public static void main(String[] args) {
    twoPages();
    theLine();
    badness();
    Due.end();
  }

  /** Two ended pages, of a mark and four items more, and of the rest of the insert and a box. */
  private static void twoPages() {
    PageBuilder x = new PageBuilder();
    x.set(100, 2, 0);
    x.cls(40, 1000, 1, 10);
    x.mark(-7);
    x.box(30, 3);
    x.insert(0, 60, true);
    x.glue(4, 6, 0, 2);
    x.mark(8);
    x.penalty(-10000);
    x.box(20, 1);
    x.penalty(-10000);
    Due.of(10, "how many pages ended");
    Due.equal("run()", x.run(), 2);
    Due.of(11, "its number");
    Due.items("first", x, 0, 0, 1, 2, 3, 4);
    Due.items("second", x, 1, 2, 6);
    Due.of(12, "How much of an insert stands there");
    Due.parts("first", x, 0, 0, 0, 40, 0, 0, 0);
    Due.parts("second", x, 1, 20, 0, 0);
    Due.of(13, "Of a page that ended");
    Due.told("first", x, 0, 5, 37, 59, 0, 6, 0, 0, 0, 2, -10000, -10000, 40, 0, 0, 0, -1);
    Due.told("second", x, 1, 2, 20, 79, 1, 0, 0, 0, 0, 0, -10000, -10000, 20, 0, 0, 0, -1);
    Due.of(14, "TOP, FIRST, BOTTOM");
    Due.marks("first", x, 0, 0, -7, 8);
    Due.marks("second", x, 1, 8, 8, 8);
    Due.of(15, "Of the page that is made");
    Due.now("a page with nothing", x, 0, 0, 100, 0, 0, 0, 0, 0, 0, Due.NO_COST, 0, 0, -1, 0, -1);
    Due.of(17, "How many there are");
    Due.equal("items", x.count(0), 8);
    Due.equal("classes", x.count(1), 1);
    Due.equal("pages", x.count(2), 2);
    Due.of(18, "1");
    Due.equal("check()", x.check(), 1);
  }

  private static void theLine() {
    Due.of(15, "items in the line, the first one's number, what is left of its height");
    PageBuilder x = new PageBuilder();
    x.cls(10, 1000, 0, 0);
    x.insert(0, 33, true);
    x.box(1, 1);
    Due.now("an insert first", x, 0, 0, 1000, 0, 0, 0, 0, 0, 0, Due.NO_COST, 0, 2, 0, 33);
    Due.equal("check()", x.check(), 1);
    x.run();
    Due.now("all is taken", x, 2, 2, 990, 0, 0, 0, 0, 0, 0, Due.NO_COST, 0, 0, -1, 0);
    x.kern(5);
    x.run();
    Due.equal("a kern waits: now(12)", x.now(12), 2);
    Due.of(15, "0 when it is no insert");
    Due.equal("a kern waits: now(13)", x.now(13), 0);
    x = new PageBuilder();
    x.cls(10, 1000, 0, 0);
    x.box(55, 6);
    x.insert(0, 33, true);
    Due.equal("a box with a height: now(13)", x.now(13), 0);
    x = new PageBuilder();
    x.mark(9);
    Due.equal("a mark: now(13)", x.now(13), 0);
    x = new PageBuilder();
    x.glue(9, 9, 0, 9);
    Due.equal("glue: now(13)", x.now(13), 0);
    x = new PageBuilder();
    x.penalty(9);
    Due.equal("a penalty: now(13)", x.now(13), 0);
  }

  private static void badness() {
    Due.of(16, "BADNESS of t by s");
    PageBuilder x = new PageBuilder();
    int most = Integer.MAX_VALUE;
    int[][] rows = {
      {0, 5, 0}, {100, 100, 100}, {50, 100, 12}, {1, 2, 12}, {2, 1, 800}, {1, 1000, 0}, {1, 3, 4},
      {3, 1, 2698}, {5, 1, 10000}, {40, 297, 0}, {7230585, 1, 10000}, {7230584, 1, 10000},
      {most, 1663497, 10000}, {7230585, most, 0}, {10000000, 10000000, 100}, {most, 1000000000, 986},
    };
    for (int[] row : rows) {
      Due.equal("badness(" + row[0] + ", " + row[1] + ")", x.badness(row[0], row[1]), row[2]);
    }
    Due.of(16, "r r r and 131072 by 262144, cut: the nearest number to r r r by 262144");
    for (int r = 0; r <= 1290; r++) {
      Due.equal("r " + r, x.badness(r, 297), Math.round(Math.pow(r, 3) / 262144));
    }
  }
}
