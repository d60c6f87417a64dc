/** Promises 1 to 18 on an object on which nothing was called yet: each call is the first one. */
public final class FirstCallTest {
  private static final int[] ANY = {Integer.MIN_VALUE, -1, 0, 1, 59, 60, Integer.MAX_VALUE};

  public static void main(String[] args) {
    newObject();
    tellings();
    refusals();
    questionsOfPages();
    otherQuestions();
    Due.end();
  }

  private static PageBuilder fresh() {
    return new PageBuilder();
  }

  private static void newObject() {
    Due.of(1, "No items, no classes, no pages");
    Due.equal("items", fresh().count(0), 0);
    Due.equal("classes", fresh().count(1), 0);
    Due.equal("pages", fresh().count(2), 0);
    Due.equal("items in the line", fresh().now(11), 0);
    Due.equal("the line's first", fresh().now(12), PageBuilder.NONE);
    Due.equal("what is left of it", fresh().now(13), 0);
    Due.of(1, "A PAGE begins EMPTY, with GOAL and greatest DEPTH at first 1000 and 0, TOP at first 0");
    Due.now("new", fresh(), 0, 0, 1000, 0, 0, 0, 0, 0, 0, Due.NO_COST, 0);
    PageBuilder x = fresh();
    x.box(0, 1);
    x.run();
    Due.now("a box of no height and depth 1", x, 1, 1, 1000, 0);
    Due.of(1, "two objects have nothing in common");
    PageBuilder a = fresh();
    PageBuilder b = fresh();
    a.set(5, 0, 0);
    a.cls(1, 1, 1, 1);
    a.box(1, 0);
    a.penalty(-10000);
    a.run();
    Due.equal("the other's goal", b.now(2), 1000);
    Due.equal("the other's items", b.count(0), 0);
    Due.equal("the other's classes", b.count(1), 0);
    Due.equal("the other's pages", b.count(2), 0);
  }

  private static void tellings() {
    Due.of(2, "set as the first call");
    Due.equal("set", fresh().set(0, 0, 0), 1);
    Due.of(3, "cls as the first call");
    Due.equal("cls", fresh().cls(0, 0, 0, 0), 0);
    Due.of(4, "box as the first call");
    Due.equal("box", fresh().box(0, 0), 0);
    Due.of(5, "glue as the first call");
    Due.equal("glue", fresh().glue(0, 0, 0, 0), 0);
    Due.of(6, "kern as the first call");
    Due.equal("kern", fresh().kern(0), 0);
    Due.of(7, "penalty as the first call");
    Due.equal("penalty", fresh().penalty(0), 0);
    Due.of(9, "mark as the first call");
    Due.equal("mark", fresh().mark(0), 0);
  }

  private static void refusals() {
    Due.of(8, "-1 no such class: there is none yet");
    for (int cls : ANY) {
      Due.equal("insert(" + cls + ", 1, true)", fresh().insert(cls, 1, true), -1);
      Due.equal("insert(" + cls + ", 0, false)", fresh().insert(cls, 0, false), -1);
    }
    Due.of(2, "-2 as the first call");
    Due.equal("set", fresh().set(-1, 0, 0), -2);
    Due.of(3, "-2 as the first call");
    Due.equal("cls", fresh().cls(-1, 0, 0, 0), -2);
    Due.of(4, "-2 as the first call");
    Due.equal("box", fresh().box(-1, 0), -2);
    Due.of(5, "-2 as the first call");
    Due.equal("glue", fresh().glue(0, -1, 0, 0), -2);
    Due.of(6, "-2 as the first call");
    Due.equal("kern", fresh().kern(1000001), -2);
    Due.of(7, "-2 as the first call");
    Due.equal("penalty", fresh().penalty(10001), -2);
  }

  private static void questionsOfPages() {
    for (int page : ANY) {
      for (int i : ANY) {
        Due.of(11, "NONE when there is none such");
        Due.equal("at(" + page + ", " + i + ")", fresh().at(page, i), PageBuilder.NONE);
        Due.of(12, "0 when there is none such");
        Due.equal("part(" + page + ", " + i + ")", fresh().part(page, i), 0);
        Due.of(14, "ArrayIndexOutOfBounds: there is no such page or which");
        Due.noMark("new", fresh(), page, i);
      }
      Due.of(13, "NONE for others");
      for (int what = -1; what <= 15; what++) {
        Due.equal("told(" + page + ", " + what + ")", fresh().told(page, what), PageBuilder.NONE);
      }
    }
  }

  private static void otherQuestions() {
    Due.of(10, "run on an empty line");
    PageBuilder x = fresh();
    Due.equal("run()", x.run(), 0);
    Due.now("after run()", x, 0, 0, 1000, 0, 0, 0, 0, 0, 0, Due.NO_COST, 0, 0, -1, 0, -1);
    Due.of(15, "each of now as the first call");
    long[] row = {0, 0, 1000, 0, 0, 0, 0, 0, 0, Due.NO_COST, 0, 0, -1, 0, -1};
    for (int what = 0; what < row.length; what++) {
      Due.equal("now(" + what + ")", fresh().now(what), row[what]);
    }
    Due.equal("now(-1)", fresh().now(-1), PageBuilder.NONE);
    Due.of(16, "badness as the first call");
    Due.equal("badness(0, 0)", fresh().badness(0, 0), 0);
    Due.equal("badness(-1, -1)", fresh().badness(-1, -1), PageBuilder.NONE);
    Due.of(17, "NONE for others");
    Due.equal("count(-1)", fresh().count(-1), PageBuilder.NONE);
    Due.equal("count(3)", fresh().count(3), PageBuilder.NONE);
    Due.of(18, "1 where there is no item");
    Due.equal("check()", fresh().check(), 1);
  }
}
