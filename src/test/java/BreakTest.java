/** Promise 10, and 9, 10 of told: how items are taken, where a page may break, what it costs, what goes back. */
public final class BreakTest {
  private static final long NONE_YET = 1073741823L;
  private static final long AWFUL = 1073741823L;
  private static final long BAD = 100000L;

  public static void main(String[] args) {
    places();
    costs();
    lengths();
    topOfAPage();
    lastKern();
    equalCostIsLater();
    forcedBreakOnAFullPage();
    whatIsBehindGoesBack();
    sixtyPages();
    glueOfTheLastBreakStays();
    Due.end();
  }

  /** A page of goal 100 with a box of 10; the cost after all that is told tells whether a place was there. */
  private static PageBuilder begun() {
    PageBuilder x = new PageBuilder();
    x.set(100, 0, 0);
    x.cls(1000, 0, 0, 0);
    x.box(10, 0);
    return x;
  }

  private static void cost(String name, PageBuilder x, long want) {
    Due.equal(name + ": run()", x.run(), 0);
    Due.equal(name + ": cost", x.now(9), want);
    Due.equal(name + ": check()", x.check(), 1);
  }

  private static void places() {
    PageBuilder x = begun();
    cost("a box is no place", x, NONE_YET);
    x.mark(1);
    x.insert(0, 1, true);
    cost("nor mark and insert", x, NONE_YET);
    x.glue(0, 0, 0, 0);
    cost("glue behind an insert", x, BAD);
    x = begun();
    x.glue(0, 0, 0, 0);
    cost("glue behind a box", x, BAD);
    x = begun();
    x.mark(1);
    x.glue(0, 0, 0, 0);
    cost("glue behind a mark", x, BAD);
    x = begun();
    x.penalty(10000);
    x.glue(0, 0, 0, 0);
    x.glue(0, 0, 0, 0);
    cost("glue behind a penalty, glue behind glue", x, NONE_YET);
    x = begun();
    x.kern(0);
    x.kern(0);
    x.box(0, 0);
    cost("kern before kern, kern before box", x, NONE_YET);
    x = begun();
    x.kern(0);
    x.penalty(10000);
    x.glue(0, 0, 0, 0);
    cost("kern before penalty", x, NONE_YET);
    x = begun();
    x.kern(0);
    x.glue(0, 0, 0, 0);
    cost("kern before glue", x, BAD);
    x = begun();
    x.penalty(9999);
    cost("penalty below 10000", x, BAD);
    breakBehindKern();
  }

  private static void breakBehindKern() {
    PageBuilder x = begun();
    x.kern(0);
    x.glue(0, 1, 1, 0);
    x.box(200, 0);
    x.penalty(0);
    Due.equal("glue behind kern: run()", x.run(), 2);
    Due.items("the break is before the kern, none is behind it", x, 0, 0);
    Due.items("kern and glue went", x, 1, 3);
  }

  private static void costs() {
    PageBuilder x = begun();
    x.glue(40, 50, 0, 10);
    x.penalty(7);
    cost("badness of 50 by 50, and the price", x, 107);
    x.box(50, 0);
    x.penalty(9);
    cost("TOTAL is GOAL", x, 9);
    x.box(10, 0);
    x.penalty(-95);
    cost("badness of 10 by the shrink 10", x, 5);
    x.kern(1);
    x.glue(0, 0, 0, 0);
    Due.equal("full, as the kern is 1 more: no place is there", x.run(), 0);
    Due.equal("its TOTAL", x.now(1), 111);
    x.penalty(100);
    Due.equal("more than the shrink", x.run(), 1);
    Due.told("the cheapest place", x, 0, 6, 110, 100, 0, 50, 0, 0, 0, 10, 5, -95, 0, 0, 0, 0);

    for (int order = 1; order <= 3; order++) {
      x = begun();
      x.glue(0, 1, order, 0);
      x.penalty(3);
      cost("stretch of order " + order, x, 3);
    }
    x = begun();
    x.penalty(-9999);
    cost("badness of 10000 takes no price", x, BAD);
    x = begun();
    x.penalty(-10000);
    Due.equal("forced, however bad: run()", x.run(), 1);
    Due.equal("forced: cost", x.told(0, 9), -10000);
  }

  private static void lengths() {
    PageBuilder x = new PageBuilder();
    x.set(1000, 5, 0);
    x.box(10, 3);
    x.run();
    Due.now("box", x, 1, 10, 1000, 3);
    x.box(20, 9);
    x.run();
    Due.now("the depth counts with the next box; too much of it counts at once", x, 2, 37, 1000, 5);
    x.glue(-4, 6, 2, 8);
    x.run();
    Due.now("glue", x, 3, 38, 1000, 0, 0, 0, 6, 0, 8);
    x.box(0, 5);
    x.kern(-7);
    x.glue(0, 2, 2, 1);
    x.run();
    Due.now("kern", x, 6, 36, 1000, 0, 0, 0, 8, 0, 9);
    x.box(1, 2);
    x.mark(1);
    x.penalty(10000);
    x.run();
    Due.now("mark and penalty", x, 9, 37, 1000, 2, 0, 0, 8, 0, 9);
    x.glue(0, 1, 0, 0);
    x.glue(0, 3, 1, 0);
    x.glue(0, 5, 3, 0);
    x.run();
    Due.now("stretch of each order", x, 12, 39, 1000, 0, 1, 3, 8, 5, 9);
  }

  private static void topOfAPage() {
    PageBuilder x = new PageBuilder();
    x.set(100, 0, 20);
    x.kern(5);
    Due.equal("top: run()", x.run(), 0);
    Due.now("a last kern goes", x, 0, 0, 100, 0, 0, 0, 0, 0, 0, NONE_YET, 0, 0, -1, 0);
    x.mark(1);
    x.glue(1, 1, 1, 1);
    x.penalty(-10000);
    x.penalty(5);
    x.kern(5);
    Due.equal("top: no break", x.run(), 0);
    Due.now("all go behind a mark, too", x, 1, 0, 100, 0, 0, 0, 0, 0, 0, NONE_YET, 0, 0, -1, 0);
    x.box(20, 0);
    x.box(5, 0);
    x.run();
    Due.now("a first box as high as TOP", x, 3, 25, 100);
    x.penalty(-10000);
    x.penalty(-10000);
    x.box(19, 0);
    Due.equal("top: one ends", x.run(), 1);
    Due.now("a first box lower than TOP", x, 1, 20, 100);
    Due.items("top", x, 0, 1, 6, 7);
    Due.equal("top: check()", x.check(), 1);
  }

  private static void lastKern() {
    PageBuilder x = begun();
    x.kern(5);
    Due.equal("kern: run()", x.run(), 0);
    Due.now("a last kern waits", x, 1, 10, 100, 0, 0, 0, 0, 0, 0, NONE_YET, 0, 1, 1, 0);
    Due.equal("kern: check()", x.check(), 1);
    x.kern(6);
    Due.equal("kern: run() with two", x.run(), 0);
    Due.now("only the last one waits", x, 2, 15, 100, 0, 0, 0, 0, 0, 0, NONE_YET, 0, 1, 2, 0);
    x.glue(1, 0, 0, 0);
    x.run();
    Due.now("no more", x, 4, 22, 100, 0, 0, 0, 0, 0, 0, BAD, 0, 0, -1, 0);
  }

  private static void equalCostIsLater() {
    PageBuilder x = begun();
    x.glue(0, 1, 1, 0);
    x.box(10, 0);
    x.penalty(5);
    x.box(10, 0);
    x.penalty(5);
    x.box(10, 0);
    x.penalty(6);
    x.box(200, 0);
    x.penalty(0);
    Due.equal("equal: run()", x.run(), 3);
    Due.items("equal", x, 0, 0, 1, 2, 3, 4);
    Due.told("equal", x, 0, 5, 30, 100, 0, 0, 1, 0, 0, 0, 5, 5, 0, 0, 0, 0);
    Due.items("equal", x, 1, 6);
    Due.told("equal", x, 1, 1, 10, 100, 0, 0, 0, 0, 0, 0, BAD, 6, 0, 0, 0, 0);
    Due.items("equal", x, 2, 8);
    Due.told("a first place may be awful", x, 2, 1, 200, 100, 0, 0, 0, 0, 0, 0, AWFUL, 0, 0, 0, 0, 0);
    Due.equal("equal: nothing is left", x.now(11), 0);
    Due.equal("equal: check()", x.check(), 1);
  }

  private static void forcedBreakOnAFullPage() {
    PageBuilder x = begun();
    x.box(80, 0);
    x.penalty(0);
    x.box(20, 0);
    x.penalty(-10000);
    Due.equal("forced: run()", x.run(), 2);
    Due.items("the place before is taken", x, 0, 0, 1);
    Due.items("the penalty forces again", x, 1, 3);
    Due.told("forced", x, 1, 1, 20, 100, 0, 0, 0, 0, 0, 0, -10000, -10000);
    x = begun();
    x.box(91, 0);
    x.penalty(-10000);
    Due.equal("forced and awful: run()", x.run(), 1);
    Due.told("forced and awful", x, 0, 2, 101, 100, 0, 0, 0, 0, 0, 0, AWFUL, -10000);
  }

  private static void whatIsBehindGoesBack() {
    PageBuilder x = new PageBuilder();
    x.set(100, 0, 0);
    x.box(90, 0);
    x.glue(10, 0, 0, 0);
    x.mark(5);
    x.kern(3);
    x.penalty(10000);
    x.box(50, 0);
    x.glue(0, 0, 0, 0);
    Due.equal("back: run()", x.run(), 1);
    Due.items("back", x, 0, 0);
    Due.marks("the mark is not on it", x, 0, 0, 0, 0);
    Due.now("back", x, 3, 50, 100, 0, 0, 0, 0, 0, 0, BAD, 0, 0, -1, 0);
    x.penalty(-10000);
    Due.equal("back: run() again", x.run(), 1);
    Due.items("back", x, 1, 2, 5, 6);
    Due.marks("back", x, 1, 0, 5, 5);
    Due.equal("back: check()", x.check(), 1);
  }

  private static void sixtyPages() {
    PageBuilder x = new PageBuilder();
    x.set(100, 0, 0);
    x.cls(1, 1000, 0, 0);
    x.insert(0, 100, true);
    for (int i = 0; i < 61; i++) {
      x.box(10, 0);
      x.penalty(-10000);
    }
    Due.equal("sixty: run()", x.run(), 60);
    Due.equal("sixty: count(2)", x.count(2), 60);
    Due.items("sixty", x, 0, 0, 1);
    Due.items("sixty", x, 59, 0, 119);
    Due.parts("sixty", x, 59, 1, 0);
    Due.now("sixty", x, 0, 0, 100, 0, 0, 0, 0, 0, 0, NONE_YET, 0, 3, 0, 40);
    Due.equal("sixty: run() again", x.run(), 0);
    Due.equal("sixty: one more item", x.glue(0, 0, 0, 0), 123);
    Due.equal("sixty: run() with it", x.run(), 0);
    Due.equal("sixty: nothing is taken", x.now(11), 4);
    Due.equal("sixty: told(60, 0)", x.told(60, 0), -1);
    Due.noMark("sixty", x, 60, 0);
    Due.equal("sixty: check()", x.check(), 1);
    Due.equal("sixty: set", x.set(7, 0, 0), 1);
    Due.equal("sixty: the empty page begins anew", x.now(2), 7);
  }

  /** Glue and kern at a break do not go with it: they wait for the next page, which takes nothing more. */
  private static void glueOfTheLastBreakStays() {
    for (int kerns = 0; kerns < 2; kerns++) {
      PageBuilder x = new PageBuilder();
      x.set(0, 0, 0);
      for (int i = 0; i < 61; i++) {
        x.box(10, 0);
        if (kerns == 1) {
          x.kern(1);
        }
        x.glue(1, 0, 0, 0);
      }
      Due.equal("glue stays: run()", x.run(), 60);
      int each = 2 + kerns;
      Due.items("glue stays", x, 59, 59 * each);
      Due.equal("glue stays: how many in the line", x.now(11), each + 1 + kerns);
      Due.equal("glue stays: the first", x.now(12), 59 * each + 1);
      Due.equal("glue stays: check()", x.check(), 1);
    }
  }
}
