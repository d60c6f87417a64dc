/** Promises 11 to 18: what is asked of pages, and the edges of each question. */
public final class AnswersTest {
  private static final int[] FAR = {-1, Integer.MIN_VALUE, Integer.MAX_VALUE};

  public static void main(String[] args) {
    pageQuestions();
    unknownNumbers();
    marks();
    theLine();
    badness();
    Due.end();
  }

  /** Two ended pages, of a mark and three items more, and of a box. */
  private static PageBuilder twoPages() {
    PageBuilder x = new PageBuilder();
    x.set(100, 2, 0);
    x.cls(40, 1000, 1, 10);
    x.mark(-7);
    x.box(30, 3);
    x.insert(0, 60, true);
    x.glue(4, 6, 0, 2);
    x.mark(8);
    x.penalty(-10000);
    x.box(20, 1);
    x.penalty(-10000);
    Due.equal("two pages: run()", x.run(), 2);
    return x;
  }

  private static void pageQuestions() {
    PageBuilder x = twoPages();
    Due.items("two pages", x, 0, 0, 1, 2, 3, 4);
    Due.parts("two pages", x, 0, 0, 0, 40, 0, 0, 0);
    Due.told("two pages", x, 0, 5, 37, 59, 0, 6, 0, 0, 0, 2, -10000, -10000, 40, 0, 0, 0, -1);
    Due.items("two pages", x, 1, 2, 6);
    Due.parts("two pages", x, 1, 20, 0, 0);
    Due.told("two pages", x, 1, 2, 20, 79, 1, 0, 0, 0, 0, 0, -10000, -10000, 20, 0, 0, 0, -1);
    Due.equal("two pages: items", x.count(0), 8);
    Due.equal("two pages: classes", x.count(1), 1);
    Due.equal("two pages: pages", x.count(2), 2);
    Due.equal("two pages: check()", x.check(), 1);
    Due.now("two pages: a page with nothing", x, 0, 0, 100, 0, 0, 0, 0, 0, 0, 1073741823L, 0, 0, -1, 0, -1);
  }

  private static void unknownNumbers() {
    PageBuilder x = twoPages();
    for (int far : FAR) {
      Due.equal("at(" + far + ", 0)", x.at(far, 0), -1);
      Due.equal("at(0, " + far + ")", x.at(0, far), -1);
      Due.equal("part(" + far + ", 0)", x.part(far, 0), 0);
      Due.equal("part(0, " + far + ")", x.part(0, far), 0);
      Due.equal("told(" + far + ", 0)", x.told(far, 0), -1);
      Due.equal("told(0, " + far + ")", x.told(0, far), -1);
      Due.equal("now(" + far + ")", x.now(far), -1);
      Due.equal("count(" + far + ")", x.count(far), -1);
      Due.noMark("far", x, far, 0);
      Due.noMark("far", x, 0, far);
    }
    Due.equal("at(2, 0)", x.at(2, 0), -1);
    Due.equal("part(2, 0)", x.part(2, 0), 0);
    Due.equal("part(1, 2)", x.part(1, 2), 0);
    Due.equal("told(2, 1)", x.told(2, 1), -1);
    Due.equal("told(0, 15)", x.told(0, 15), -1);
    Due.equal("now(14)", x.now(14), -1);
    Due.equal("count(3)", x.count(3), -1);
    Due.noMark("none", x, 2, 0);
    Due.noMark("none", x, 0, 3);
    Due.noMark("none", x, 2, 3);
  }

  private static void marks() {
    PageBuilder x = new PageBuilder();
    int[][] of = {{}, {4, 5, 6}, {}, {Integer.MIN_VALUE}, {0, Integer.MAX_VALUE}};
    for (int[] row : of) {
      x.box(1, 0);
      for (int v : row) {
        x.mark(v);
      }
      x.penalty(-10000);
    }
    Due.equal("marks: run()", x.run(), 5);
    Due.marks("none yet", x, 0, 0, 0, 0);
    Due.marks("three", x, 1, 0, 4, 6);
    Due.marks("none", x, 2, 6, 6, 6);
    Due.marks("one", x, 3, 6, Integer.MIN_VALUE, Integer.MIN_VALUE);
    Due.marks("two", x, 4, Integer.MIN_VALUE, 0, Integer.MAX_VALUE);
  }

  private static void theLine() {
    PageBuilder x = new PageBuilder();
    x.cls(10, 1000, 0, 0);
    x.insert(0, 33, true);
    x.box(1, 1);
    Due.now("line: an insert first", x, 0, 0, 1000, 0, 0, 0, 0, 0, 0, 1073741823L, 0, 2, 0, 33);
    Due.equal("line: check()", x.check(), 1);
    x.run();
    Due.now("line: all is taken", x, 2, 2, 990, 0, 0, 0, 0, 0, 0, 1073741823L, 0, 0, -1, 0);
    x.kern(5);
    x.run();
    Due.equal("line: a kern waits", x.now(12), 2);
    Due.equal("line: and has no height", x.now(13), 0);
  }

  private static void badness() {
    PageBuilder x = new PageBuilder();
    int most = Integer.MAX_VALUE;
    int[][] rows = {
      {0, 0, 0}, {0, 5, 0}, {0, most, 0}, {1, 0, 10000}, {most, 0, 10000}, {1, 1, 100}, {100, 100, 100},
      {50, 100, 12}, {1, 2, 12}, {2, 1, 800}, {1, 1000, 0}, {1, 3, 4}, {3, 1, 2698}, {5, 1, 10000},
      {1290, 297, 8189}, {1291, 297, 10000}, {40, 297, 0}, {50, 297, 0}, {51, 297, 1}, {1289, 297, 8170},
      {7230584, 1663497, 8189}, {7230585, 1663497, 8189}, {7230584, 1663496, 8189}, {7230585, 1663496, 10000},
      {7230585, 1, 10000}, {7230584, 1, 10000}, {most, most, 100}, {most, 1663497, 10000},
      {7230585, most, 0}, {10000000, 10000000, 100}, {most, 1000000000, 986},
    };
    for (int[] row : rows) {
      Due.equal("badness(" + row[0] + ", " + row[1] + ")", x.badness(row[0], row[1]), row[2]);
    }
    for (int below : new int[] {-1, Integer.MIN_VALUE}) {
      Due.equal("badness t below", x.badness(below, 5), -1);
      Due.equal("badness s below", x.badness(5, below), -1);
      Due.equal("badness of 0, s below", x.badness(0, below), -1);
      Due.equal("badness both below", x.badness(below, below), -1);
    }
  }
}
