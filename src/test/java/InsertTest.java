/** How inserts stand, are cut or held, what that costs, and how they go on (promises 8, 10, 12, 13, 15). */
public final class InsertTest {
  private static final long AWFUL = 1073741823L;

  public static void main(String[] args) {
    shrinkHelpsAWholeInsert();
    depthIsNotFree();
    factorIsCut();
    factorOfNothing();
    roomBounds();
    skipOncePerClass();
    noneStandsBehindOneThatIsCut();
    tenThousandIsAwful();
    whatIsLeftGoesOn();
    Due.end();
  }

  /** A page of goal 100 and one class, with a box that leaves 45 and glue with shrink 10 behind it. */
  private static PageBuilder begun(int room, int factor, int skip, int penalty) {
    PageBuilder x = new PageBuilder();
    x.set(100, 10, 0);
    x.cls(room, factor, skip, penalty);
    x.box(50, 5);
    x.glue(0, 0, 0, 10);
    return x;
  }

  /** GOAL and INSERTED after one more insert. */
  private static void after(String name, PageBuilder x, int height, boolean cuts, long goal, long inserted) {
    x.insert(0, height, cuts);
    Due.equal(name + ": run()", x.run(), 0);
    Due.equal(name + ": GOAL", x.now(2), goal);
    Due.equal(name + ": INSERTED", x.now(10), inserted);
    Due.equal(name + ": check()", x.check(), 1);
  }

  private static void shrinkHelpsAWholeInsert() {
    after("fits with the shrink", begun(1000, 1000, 0, 7), 55, false, 45, 0);
    after("does not fit", begun(1000, 1000, 0, 7), 56, false, 100, 7);
    after("is cut without the shrink", begun(1000, 1000, 0, 7), 56, true, 55, 7);
  }

  private static void depthIsNotFree() {
    for (int height = 45; height <= 46; height++) {
      PageBuilder x = new PageBuilder();
      x.set(100, 10, 0);
      x.cls(1000, 1000, 0, 7);
      x.box(50, 5);
      boolean fits = height == 45;
      after("depth, " + height, x, height, false, fits ? 55 : 100, fits ? 0 : 7);
    }
  }

  private static void factorIsCut() {
    PageBuilder x = begun(1000, 1500, 0, 7);
    after("37 by 1500 is 55", x, 37, false, 45, 0);
    x = begun(1000, 1500, 0, 7);
    after("38 by 1500 is 57; of it 30 stand", x, 38, true, 55, 7);
    x.penalty(-10000);
    Due.equal("factor: run()", x.run(), 1);
    Due.parts("factor", x, 0, 0, 0, 30);
    Due.equal("factor: what stands", x.told(0, 11), 30);
    Due.now("factor: 8 are left, at the next page's front", x, 1, 0, 88);
    x = new PageBuilder();
    x.set(1000000, 0, 0);
    x.cls(1000000, 2000, 0, 7);
    after("great lengths", x, 1000000, true, 0, 7);
    x = begun(1000, 700, 0, 7);
    after("cut toward 0: 64 by 700 is 44", x, 100, true, 56, 7);
    Due.equal("one more is held", x.insert(0, 1, true), 3);
    after("and one more", x, 1, true, 56, 21);
  }

  private static void factorOfNothing() {
    PageBuilder x = begun(1000, 0, 0, 7);
    after("a factor of 0 needs no space", x, 900, false, 100, 0);
    after("but room, and is cut by it alone", x, 200, true, 100, 7);
    x.penalty(-10000);
    x.run();
    Due.parts("factor 0", x, 0, 0, 0, 900, 100);
    x = begun(1000, 1, 0, 7);
    x.box(1000, 0);
    after("less than 1 is nothing, however full", x, 999, false, 100, 0);
    after("1 is too much", x, 1000, true, 100, 7);
    x = begun(10000, 1, 0, 7);
    x.box(45, 0);
    x.glue(0, 0, 0, 0);
    x.kern(10);
    after("a full page cuts nothing", x, 1000, true, 100, 7);
    x.penalty(-10000);
    x.run();
    Due.equal("nothing of it stands", x.told(0, 11), 0);
    x = begun(5, 0, 0, 7);
    after("room alone bounds the part", x, 6, true, 100, 7);
    x.penalty(-10000);
    x.run();
    Due.equal("room alone", x.part(0, 2), 5);
    x = begun(10000000, 0, 0, 7);
    after("the greatest height", x, 1000000, false, 100, 0);
  }

  private static void roomBounds() {
    PageBuilder x = begun(20, 1000, 0, 7);
    after("room: just fits", x, 12, false, 88, 0);
    after("room: fills it", x, 8, true, 80, 0);
    after("room: none is left", x, 1, true, 80, 7);
    x = begun(20, 1000, 0, 7);
    after("room: cut", x, 21, true, 80, 7);
    x = begun(20, 1000, 0, 7);
    after("room: may not be cut", x, 21, false, 100, 7);
    x = begun(0, 1000, 0, 7);
    after("room: of nothing", x, 21, true, 100, 7);
    x = begun(1000, 1000, 0, 7);
    x.box(45, 0);
    after("room: the page is full but for the shrink", x, 11, true, 100, 7);
    x = begun(1000, 1000, 0, 7);
    x.box(44, 0);
    x.glue(0, 0, 0, 0);
    after("a height of 1 is whole or held", x, 1, true, 99, 0);
  }

  private static void skipOncePerClass() {
    PageBuilder x = begun(1000, 1000, 30, 7);
    Due.equal("skip: a second class", x.cls(1000, 1000, 3, 100), 1);
    after("skip: the goal is less before it is tried", x, 26, false, 70, 7);
    after("skip: once alone", x, 1, false, 70, 14);
    x.insert(1, 5, false);
    x.run();
    Due.equal("skip: the other class", x.now(2), 62);
    Due.equal("skip: the other stands", x.now(10), 14);
    x.penalty(-10000);
    x.run();
    Due.now("skip: again on the next page", x, 2, 0, 43, 0, 0, 0, 0, 0, 0, AWFUL, 0);
  }

  private static void noneStandsBehindOneThatIsCut() {
    PageBuilder x = begun(1000, 1000, 0, 7);
    Due.equal("held: a second class", x.cls(1000, 0, 0, 100), 1);
    after("held: cut", x, 60, true, 55, 7);
    x.kern(-30);
    after("held: there is space, but none stands", x, 1, true, 55, 14);
    x.insert(1, 3, false);
    x.run();
    Due.equal("held: another class stands", x.now(10), 14);
    x.penalty(-10000);
    x.run();
    Due.items("held", x, 0, 0, 1, 2, 3, 4, 5);
    Due.parts("held", x, 0, 0, 0, 45, 0, 0, 3);
    Due.told("held", x, 0, 6, 25, 55, 0, 0, 0, 0, 0, 10, -10000, -10000, 45, 3, 0, 0);
    Due.now("held: both stand on the next", x, 2, 0, 84, 0, 0, 0, 0, 0, 0, AWFUL, 0, 0);
  }

  private static void tenThousandIsAwful() {
    PageBuilder x = begun(0, 1000, 0, 9999);
    x.glue(0, 1, 1, 0);
    after("9999", x, 5, true, 100, 9999);
    x.penalty(-3);
    Due.equal("9999: run()", x.run(), 0);
    Due.equal("9999: cost", x.now(9), 9996);
    after("twice", x, 5, true, 100, 19998);
    x.penalty(-9000);
    Due.equal("twice: run()", x.run(), 1);
    Due.equal("the place before is the cheapest", x.told(0, 9), 9996);
    x = begun(0, 1000, 0, 10000);
    x.glue(0, 1, 1, 0);
    after("10000", x, 5, true, 100, 10000);
    x.penalty(-10000);
    Due.equal("10000: run()", x.run(), 1);
    Due.told("before the insert was a place", x, 0, 1, 50, 100, 5, 0, 0, 0, 0, 0, 100000, 0);
  }

  private static void whatIsLeftGoesOn() {
    PageBuilder x = new PageBuilder();
    x.set(100, 0, 0);
    x.cls(30, 1000, 0, 0);
    x.cls(0, 1000, 0, 0);
    x.box(10, 0);
    x.insert(0, 50, true);
    x.insert(1, 5, false);
    x.insert(0, 7, true);
    x.mark(3);
    x.penalty(0);
    x.insert(0, 9, true);
    x.insert(1, 4, true);
    x.box(100, 0);
    Due.equal("left: the line's first is a box", x.now(13), 0);
    x.penalty(0);
    Due.equal("left: run()", x.run(), 2);
    Due.items("left", x, 0, 0, 1, 2, 3, 4);
    Due.parts("left", x, 0, 0, 30, 0, 0, 0);
    Due.told("left", x, 0, 5, 10, 70, 0, 0, 0, 0, 0, 0, 100000, 0, 30, 0, 0, 0);
    Due.items("left", x, 1, 1, 2, 3, 6, 7, 8);
    Due.parts("left", x, 1, 20, 0, 7, 3, 0, 0);
    Due.told("left", x, 1, 6, 100, 70, 0, 0, 0, 0, 0, 0, AWFUL, 0, 30, 0, 0, 0);
    Due.now("left", x, 3, 0, 94, 0, 0, 0, 0, 0, 0, AWFUL, 0, 0, -1, 0);
    Due.equal("left: check()", x.check(), 1);
    x.box(1, 0);
    x.penalty(-10000);
    x.run();
    Due.items("left", x, 2, 2, 6, 7, 10);
    Due.parts("left", x, 2, 0, 6, 0, 0);
    Due.equal("left: check() at the end", x.check(), 1);
  }
}
