/** Promises 2 to 9 and 16: on each side of a range the last value that is taken, and the first that is not. */
public final class RangesTest {
  private static final int MOST = 1000000;
  private static final int MOST_SET = 10000000;
  private static final int LOWEST = Integer.MIN_VALUE;
  private static final int HIGHEST = Integer.MAX_VALUE;

  public static void main(String[] args) {
    setTakes();
    setRefuses();
    clsTakes();
    clsRefuses();
    box();
    glueTakes();
    glueRefuses();
    kern();
    penalty();
    insert();
    mark();
    badness();
    Due.end();
  }

  /** A refused telling leaves no item behind, and the next one's number is as if it had not been. */
  private static void noneTold(PageBuilder x) {
    Due.equal("refusals tell no item", x.count(0), 0);
    Due.equal("nor put one in the line", x.now(11), 0);
    Due.equal("the next number", x.mark(1), 0);
  }

  private static void setTakes() {
    Due.of(2, "GOAL 0 .. 10000000");
    for (int goal : new int[] {0, 1, MOST_SET - 1, MOST_SET}) {
      PageBuilder x = new PageBuilder();
      Due.equal("set goal " + goal, x.set(goal, 0, 0), 1);
      Due.equal("now(2)", x.now(2), goal);
    }
    Due.of(2, "greatest DEPTH 0 .. 10000000");
    PageBuilder x = new PageBuilder();
    Due.equal("set depth 0", x.set(1000, 0, 0), 1);
    x.box(10, 1);
    x.run();
    Due.now("a depth of 1 is 1 more", x, 1, 11, 1000, 0);
    x = new PageBuilder();
    Due.equal("set depth 10000000", x.set(1000, MOST_SET, 0), 1);
    x.box(10, MOST);
    x.run();
    Due.now("no depth is more", x, 1, 10, 1000, MOST);
    Due.of(2, "TOP 0 .. 10000000");
    for (int top : new int[] {0, 1, MOST_SET - 1, MOST_SET}) {
      x = new PageBuilder();
      Due.equal("set top " + top, x.set(1000, 0, top), 1);
      x.box(0, 0);
      x.run();
      Due.equal("TOTAL of a first box without height", x.now(1), top);
    }
  }

  private static void setRefuses() {
    Due.of(2, "-2 outside 0 .. 10000000; a refusal changes nothing");
    PageBuilder x = new PageBuilder();
    x.set(70, 5, 30);
    for (int v : new int[] {-1, LOWEST, MOST_SET + 1, HIGHEST}) {
      Due.equal("set goal " + v, x.set(v, 1, 1), -2);
      Due.equal("set depth " + v, x.set(1, v, 1), -2);
      Due.equal("set top " + v, x.set(1, 1, v), -2);
      Due.equal("set all " + v, x.set(v, v, v), -2);
    }
    x.box(20, 9);
    x.run();
    Due.now("goal, depth and top are as before", x, 1, 34, 70, 5);
    Due.equal("set on a page with an item", x.set(1, 1, -1), -2);
    x.penalty(-10000);
    x.box(20, 9);
    x.run();
    Due.now("nor has the next page others", x, 1, 34, 70, 5);
  }

  /** A page of goal 1000 and depth 0 with one class, and one insert of it. */
  private static PageBuilder withInsert(int height, boolean cuts, int... cls) {
    PageBuilder x = new PageBuilder();
    Due.equal("cls", x.cls(cls[0], cls[1], cls[2], cls[3]), 0);
    x.insert(0, height, cuts);
    x.run();
    return x;
  }

  private static void clsTakes() {
    Due.of(3, "room 0 .. 10000000");
    Due.equal("room 0", withInsert(1, true, 0, 1000, 0, 7).now(10), 7);
    Due.equal("room 1", withInsert(1, true, 1, 1000, 0, 7).now(10), 0);
    PageBuilder x = withInsert(MOST, false, MOST_SET, 0, 0, 7);
    for (int i = 0; i < 9; i++) {
      x.insert(0, MOST, false);
    }
    x.run();
    Due.equal("ten greatest inserts stand in room 10000000", x.now(10), 0);
    x.insert(0, 1, false);
    x.run();
    Due.equal("no more does", x.now(10), 7);
    Due.of(3, "factor 0 .. 2000");
    Due.equal("factor 0", withInsert(1000, false, 1000, 0, 0, 0).now(2), 1000);
    Due.equal("factor 1", withInsert(1000, false, 1000, 1, 0, 0).now(2), 999);
    Due.equal("factor 1999", withInsert(500, false, 1000, 1999, 0, 0).now(2), 1);
    Due.equal("factor 2000", withInsert(500, false, 1000, 2000, 0, 0).now(2), 0);
    Due.of(3, "skip 0 .. 10000");
    Due.equal("skip 0", withInsert(1, false, 0, 0, 0, 0).now(2), 1000);
    Due.equal("skip 10000", withInsert(1, false, 0, 0, 10000, 0).now(2), -9000);
    Due.of(3, "penalty 0 .. 10000");
    Due.equal("penalty 0", withInsert(1, false, 0, 0, 0, 0).now(10), 0);
    Due.equal("penalty 10000", withInsert(1, false, 0, 0, 0, 10000).now(10), 10000);
  }

  private static void clsRefuses() {
    PageBuilder x = new PageBuilder();
    String[] names = {"room", "factor", "skip", "penalty"};
    int[] most = {MOST_SET, 2000, 10000, 10000};
    for (int field = 0; field < 4; field++) {
      Due.of(3, "-2 " + names[field] + " not 0 .. " + most[field]);
      for (int v : new int[] {-1, LOWEST, most[field] + 1, HIGHEST}) {
        int[] f = {1, 1, 1, 1};
        f[field] = v;
        Due.equal("cls with " + v, x.cls(f[0], f[1], f[2], f[3]), -2);
      }
    }
    Due.equal("refusals make no class", x.count(1), 0);
    Due.equal("none can be used", x.insert(0, 1, true), -1);
    Due.equal("the next number", x.cls(1, 1, 1, 1), 0);
  }

  private static void box() {
    Due.of(4, "height and depth 0 to 1000000");
    for (int v : new int[] {0, 1, MOST - 1, MOST}) {
      PageBuilder x = new PageBuilder();
      x.set(1000, MOST_SET, 0);
      Due.equal("box height " + v, x.box(v, 3), 0);
      x.run();
      Due.now("height " + v, x, 1, v, 1000, 3);
      x = new PageBuilder();
      x.set(1000, MOST_SET, 0);
      Due.equal("box depth " + v, x.box(3, v), 0);
      x.run();
      Due.now("depth " + v, x, 1, 3, 1000, v);
    }
    Due.of(4, "-2");
    PageBuilder x = new PageBuilder();
    for (int v : new int[] {-1, LOWEST, MOST + 1, HIGHEST}) {
      Due.equal("box height " + v, x.box(v, 0), -2);
      Due.equal("box depth " + v, x.box(0, v), -2);
    }
    noneTold(x);
  }

  /** A page with a box of no height and this glue on it. */
  private static PageBuilder withGlue(int natural, int stretch, int order, int shrink) {
    PageBuilder x = new PageBuilder();
    x.box(0, 0);
    Due.equal("glue", x.glue(natural, stretch, order, shrink), 1);
    x.run();
    return x;
  }

  private static void glueTakes() {
    Due.of(5, "natural length -1000000 to 1000000");
    for (int v : new int[] {-MOST, -MOST + 1, -1, 0, 1, MOST - 1, MOST}) {
      Due.now("natural " + v, withGlue(v, 0, 0, 0), 2, v, 1000, 0, 0, 0, 0, 0, 0);
    }
    Due.of(5, "STRETCH 0 to 1000000 of an ORDER 0 to 3");
    for (int order = 0; order <= 3; order++) {
      for (int v : new int[] {0, 1, MOST - 1, MOST}) {
        PageBuilder x = withGlue(0, v, order, 0);
        for (int of = 0; of <= 3; of++) {
          Due.equal("stretch " + v + " of " + order + ": now(" + (4 + of) + ")", x.now(4 + of), of == order ? v : 0);
        }
      }
    }
    Due.of(5, "SHRINK 0 to 1000000");
    for (int v : new int[] {0, 1, MOST - 1, MOST}) {
      Due.now("shrink " + v, withGlue(0, 0, 0, v), 2, 0, 1000, 0, 0, 0, 0, 0, v);
    }
  }

  private static void glueRefuses() {
    Due.of(5, "-2");
    PageBuilder x = new PageBuilder();
    for (int v : new int[] {-MOST - 1, LOWEST, MOST + 1, HIGHEST}) {
      Due.equal("glue natural " + v, x.glue(v, 0, 0, 0), -2);
    }
    for (int v : new int[] {-1, LOWEST, MOST + 1, HIGHEST}) {
      Due.equal("glue stretch " + v, x.glue(0, v, 0, 0), -2);
      Due.equal("glue shrink " + v, x.glue(0, 0, 0, v), -2);
    }
    for (int v : new int[] {-1, LOWEST, 4, HIGHEST}) {
      Due.equal("glue order " + v, x.glue(0, 0, v, 0), -2);
    }
    noneTold(x);
  }

  private static void kern() {
    Due.of(6, "-1000000 to 1000000");
    for (int v : new int[] {-MOST, -MOST + 1, -1, 0, 1, MOST - 1, MOST}) {
      PageBuilder x = new PageBuilder();
      x.box(0, 0);
      Due.equal("kern " + v, x.kern(v), 1);
      x.mark(0);
      x.run();
      Due.now("kern " + v, x, 3, v, 1000, 0);
    }
    Due.of(6, "-2");
    PageBuilder x = new PageBuilder();
    for (int v : new int[] {-MOST - 1, LOWEST, MOST + 1, HIGHEST}) {
      Due.equal("kern " + v, x.kern(v), -2);
    }
    noneTold(x);
  }

  private static void penalty() {
    Due.of(7, "-10000 to 10000");
    for (int v : new int[] {-10000, -9999, -1, 0, 1, 9999, 10000}) {
      PageBuilder x = new PageBuilder();
      x.box(1000, 0);
      Due.equal("penalty " + v, x.penalty(v), 1);
      Due.equal("penalty " + v + " ends the page", x.run(), v == -10000 ? 1 : 0);
      if (v != -10000) {
        Due.equal("penalty " + v + ": COST", x.now(9), v == 10000 ? Due.NO_COST : v);
      } else {
        Due.told("penalty " + v, x, 0, 1, 1000, 1000, 0, 0, 0, 0, 0, 0, v, v);
      }
    }
    Due.of(7, "-2");
    PageBuilder x = new PageBuilder();
    for (int v : new int[] {-10001, LOWEST, 10001, HIGHEST}) {
      Due.equal("penalty " + v, x.penalty(v), -2);
    }
    noneTold(x);
  }

  private static void insert() {
    Due.of(8, "a height 1 to 1000000");
    for (int v : new int[] {1, 2, MOST - 1, MOST}) {
      PageBuilder x = new PageBuilder();
      x.cls(MOST, 0, 0, 0);
      Due.equal("insert height " + v, x.insert(0, v, false), 0);
      Due.equal("what is left of it", x.now(13), v);
      x.box(0, 0);
      x.penalty(-10000);
      x.run();
      Due.equal("it stands", x.part(0, 0), v);
    }
    Due.of(8, "-2");
    PageBuilder x = new PageBuilder();
    x.cls(MOST, 0, 0, 0);
    for (int v : new int[] {0, -1, LOWEST, MOST + 1, HIGHEST}) {
      Due.equal("insert height " + v, x.insert(0, v, true), -2);
      Due.equal("insert height " + v + " uncut", x.insert(0, v, false), -2);
    }
    Due.of(8, "-1 no such class, before -2");
    for (int cls : new int[] {-1, LOWEST, 1, 4, HIGHEST}) {
      Due.equal("insert of class " + cls, x.insert(cls, 1, true), -1);
      Due.equal("insert of class " + cls + ", height 0", x.insert(cls, 0, true), -1);
    }
    noneTold(x);
  }

  private static void mark() {
    Due.of(9, "MARKS (any int)");
    for (int v : new int[] {LOWEST, LOWEST + 1, -1, 0, 1, HIGHEST - 1, HIGHEST}) {
      PageBuilder x = new PageBuilder();
      Due.equal("mark " + v, x.mark(v), 0);
      x.box(0, 0);
      x.penalty(-10000);
      x.run();
      Due.marks("mark " + v, x, 0, 0, v, v);
    }
  }

  private static void badness() {
    PageBuilder x = new PageBuilder();
    Due.of(16, "t and s from 0 on");
    Due.equal("badness(0, 0)", x.badness(0, 0), 0);
    Due.equal("badness(greatest, greatest)", x.badness(HIGHEST, HIGHEST), 100);
    Due.equal("badness(greatest, 0)", x.badness(HIGHEST, 0), 10000);
    Due.equal("badness(0, greatest)", x.badness(0, HIGHEST), 0);
    Due.of(16, "NONE when one is below");
    for (int below : new int[] {-1, LOWEST}) {
      for (int v : new int[] {0, 1, HIGHEST}) {
        Due.equal("badness(" + below + ", " + v + ")", x.badness(below, v), -1);
        Due.equal("badness(" + v + ", " + below + ")", x.badness(v, below), -1);
      }
      Due.equal("badness, both " + below, x.badness(below, below), -1);
    }
    Due.of(16, "0 when t is 0; 10000 when s is 0");
    Due.equal("badness(0, 0): t first", x.badness(0, 0), 0);
    Due.equal("badness(0, 1)", x.badness(0, 1), 0);
    Due.equal("badness(1, 0)", x.badness(1, 0), 10000);
    Due.equal("badness(1, 1)", x.badness(1, 1), 100);
    Due.of(16, "297 t by s (t up to 7230584), or t by (s by 297) (t above, s 1663497 or more), or t");
    Due.equal("badness(7230584, 1663497)", x.badness(7230584, 1663497), 8189);
    Due.equal("badness(7230584, 1663496)", x.badness(7230584, 1663496), 8189);
    Due.equal("badness(7230585, 1663497)", x.badness(7230585, 1663497), 8189);
    Due.equal("badness(7230585, 1663496)", x.badness(7230585, 1663496), 10000);
    Due.equal("297 t by s is 1289, t by (s by 297) is not", x.badness(7230584, 1664981), 8170);
    Due.equal("t by (s by 297) is 1290, 297 t by s is not", x.badness(7230585, 1664981), 8189);
    Due.equal("t by (s by 297) is 1000, 297 t by s is not", x.badness(10000000, 2970296), 3815);
    Due.equal("t by (s by 297) is 999: t is 1 less", x.badness(9999999, 2970296), 3803);
    Due.equal("t by (s by 297) is 999: s is 1 more", x.badness(10000000, 2970297), 3803);
    Due.of(16, "10000, when r is above 1290");
    Due.equal("badness(1290, 297)", x.badness(1290, 297), 8189);
    Due.equal("badness(1291, 297)", x.badness(1291, 297), 10000);
    Due.of(16, "r r r and 131072 by 262144, cut");
    Due.equal("r 50", x.badness(50, 297), 0);
    Due.equal("r 51", x.badness(51, 297), 1);
    Due.equal("r 1289", x.badness(1289, 297), 8170);
  }
}
