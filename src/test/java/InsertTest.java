/** Promises 8, 10, 12, 13 and 15: when an insert stands, is cut or held, and what that takes. */
public final class InsertTest {
  public static void main(String[] args) {
    freeAndShrink();
    freeIsLessTotalAndDepth();
    heightOfNothing();
    room();
    mayNotBeCut();
    partByRoom();
    partByFree();
    partWithoutFactor();
    byFactorIsCut();
    skipOnce();
    skipCountsBefore();
    heldBehindOneThatIsNotWhole();
    insertedGrows();
    greatFree();
    belowTheGoal();
    theRestIsTriedAnew();
    Due.end();
  }

  /** A page of goal 100 and one class, with a box that leaves 45 and glue with shrink 10 behind it. */
  private static PageBuilder begun(int room, int factor, int skip, int penalty) {
    PageBuilder x = new PageBuilder();
    x.set(100, 10, 0);
    x.cls(room, factor, skip, penalty);
    x.box(50, 5);
    x.penalty(10000);
    x.glue(0, 0, 0, 10);
    return x;
  }

  /** GOAL and INSERTED after one more insert. */
  private static void after(String name, PageBuilder x, int height, boolean cuts, long goal, long inserted) {
    x.insert(0, height, cuts);
    Due.equal(name + ": run()", x.run(), 0);
    Due.equal(name + ": GOAL", x.now(2), goal);
    Due.equal(name + ": INSERTED", x.now(10), inserted);
    Due.equal(name + ": check()", x.check(), 1);
  }

  /** What stands of class 0 on the page that is made, by ending it. */
  private static void stands(String name, PageBuilder x, long want) {
    x.penalty(-10000);
    Due.equal(name + ": run()", x.run(), 1);
    Due.equal(name + ": what stands", x.told(0, 11), want);
  }

  private static void freeAndShrink() {
    Due.of(10, "if its height by FACTOR is not more than FREE and shrink together, it STANDS");
    after("as much", begun(1000, 1000, 0, 7), 55, false, 45, 0);
    after("1 more", begun(1000, 1000, 0, 7), 56, false, 100, 7);
    after("1 less", begun(1000, 1000, 0, 7), 54, false, 46, 0);
    PageBuilder x = begun(1000, 1000, 0, 7);
    after("one that stands takes from the GOAL", x, 40, false, 60, 0);
    after("the next, as much", x, 15, false, 45, 0);
    after("the next, 1 more", x, 1, false, 45, 7);
    Due.of(10, "FREE without the shrink, where one is cut");
    after("1 more than FREE and shrink", begun(1000, 1000, 0, 7), 56, true, 55, 7);
  }

  private static void freeIsLessTotalAndDepth() {
    Due.of(10, "FREE = GOAL less TOTAL and depth");
    for (int height = 45; height <= 46; height++) {
      PageBuilder x = new PageBuilder();
      x.set(100, 10, 0);
      x.cls(1000, 1000, 0, 7);
      x.box(50, 5);
      boolean fits = height == 45;
      after("depth, " + height, x, height, false, fits ? 55 : 100, fits ? 0 : 7);
    }
    for (int height = 100; height <= 101; height++) {
      PageBuilder x = new PageBuilder();
      x.set(100, 10, 0);
      x.cls(1000, 1000, 0, 7);
      boolean fits = height == 100;
      after("an empty page, " + height, x, height, false, fits ? 0 : 100, fits ? 0 : 7);
    }
  }

  /** A page with 45 less than nothing FREE. */
  private static PageBuilder tooFull(int room, int factor) {
    PageBuilder x = begun(room, factor, 0, 7);
    x.box(100, 0);
    return x;
  }

  private static void heightOfNothing() {
    Due.of(10, "(or is 0): however full the page is");
    after("999 by 1 is 0", tooFull(1000, 1), 999, false, 100, 0);
    after("1000 by 1 is 1", tooFull(1000, 1), 1000, false, 100, 7);
    after("1 by 999 is 0", tooFull(1000, 999), 1, false, 100, 0);
    after("1 by 1000 is 1", tooFull(1000, 1000), 1, false, 100, 7);
    after("by 0", tooFull(1000000, 0), 1000000, false, 100, 0);
    Due.of(10, "(or is 0), and not more than its ROOM");
    after("999 by 1, room 998", tooFull(998, 1), 999, false, 100, 7);
    PageBuilder x = tooFull(998, 1);
    after("999 by 1, room 998, FREE is less than nothing", x, 999, true, 100, 7);
    stands("a factor of 1 is none of 0", x, 0);
  }

  private static void room() {
    Due.of(10, "and what stands of the class with its height is not more than its ROOM, it STANDS");
    after("as much", begun(20, 1000, 0, 7), 20, false, 80, 0);
    after("1 more", begun(20, 1000, 0, 7), 21, false, 100, 7);
    PageBuilder x = begun(20, 1000, 0, 7);
    after("of two, the first", x, 12, false, 88, 0);
    after("of two, as much", x, 8, true, 80, 0);
    after("none is left", x, 1, true, 80, 7);
    x = begun(20, 1000, 0, 7);
    after("of two, the first", x, 12, false, 88, 0);
    after("of two, 1 more", x, 9, false, 88, 7);
    after("no room at all", begun(0, 1000, 0, 7), 1, true, 100, 7);
    x = begun(20, 1000, 0, 7);
    x.cls(20, 1000, 0, 7);
    x.insert(1, 20, false);
    after("of another class", x, 20, false, 60, 0);
  }

  private static void mayNotBeCut() {
    Due.of(10, "0, if it may not be cut: it is HELD");
    PageBuilder x = begun(20, 1000, 0, 7);
    after("room", x, 21, false, 100, 7);
    stands("room", x, 0);
    Due.equal("its part", x.part(0, 3), 0);
    x = begun(1000, 1000, 0, 7);
    after("FREE", x, 56, false, 100, 7);
    stands("FREE", x, 0);
  }

  private static void partByRoom() {
    Due.of(10, "PART is not above ROOM less what stands; CUT: GOAL is less by it by FACTOR");
    PageBuilder x = begun(20, 1000, 0, 7);
    after("20", x, 21, true, 80, 7);
    stands("20", x, 20);
    Due.equal("its part", x.part(0, 3), 20);
    x = begun(20, 1000, 0, 7);
    after("the first", x, 19, false, 81, 0);
    after("1 is left", x, 2, true, 80, 7);
    stands("1 is left", x, 20);
    Due.parts("1 is left", x, 0, 0, 0, 0, 19, 1);
    Due.of(10, "0, if that is below 1: it is HELD");
    x = begun(20, 1000, 0, 7);
    after("the first", x, 20, false, 80, 0);
    after("0 is left", x, 2, true, 80, 7);
    stands("0 is left", x, 20);
    Due.parts("0 is left", x, 0, 0, 0, 0, 20, 0);
  }

  /** A page of this goal with nothing but an insert of 1000 that may be cut: FREE is the goal. */
  private static void partOf(int goal, int factor, int want) {
    PageBuilder x = new PageBuilder();
    x.set(goal, 0, 0);
    x.cls(100000, factor, 0, 7);
    x.insert(0, 1000, true);
    x.box(0, 0);
    stands("FREE " + goal + ", factor " + factor, x, want);
    Due.equal("GOAL", x.told(0, 2), goal - (long) want * factor / 1000);
  }

  private static void partByFree() {
    Due.of(10, "PART is not above FREE times 1000 by FACTOR, cut toward 0");
    partOf(999, 1000, 999);
    partOf(2, 1000, 2);
    partOf(1, 1000, 1);
    partOf(1, 999, 1);
    partOf(2, 2000, 1);
    partOf(3, 2000, 1);
    partOf(44, 700, 62);
    partOf(499, 501, 996);
    Due.of(10, "0, if that is below 1: it is HELD");
    partOf(0, 1000, 0);
    partOf(1, 1001, 0);
    partOf(1, 2000, 0);
    Due.of(10, "0, if that is below 1: FREE is less than nothing");
    PageBuilder x = begun(1000, 1000, 0, 7);
    x.box(46, 0);
    after("1 less than nothing", x, 10, true, 100, 7);
    stands("1 less than nothing", x, 0);
    x = begun(1000, 1000, 0, 7);
    x.box(45, 0);
    after("nothing, but for the shrink", x, 11, true, 100, 7);
    stands("nothing, but for the shrink", x, 0);
    x = begun(1000, 1000, 0, 7);
    x.box(44, 0);
    after("1", x, 12, true, 99, 7);
    stands("1", x, 1);
  }

  private static void partWithoutFactor() {
    Due.of(10, "PART, (unless FACTOR is 0) not above FREE times 1000 by FACTOR");
    PageBuilder x = tooFull(5, 0);
    after("room alone bounds it, however full the page", x, 6, true, 100, 7);
    stands("room alone", x, 5);
    x = begun(1000, 0, 0, 7);
    after("the first", x, 900, false, 100, 0);
    after("the second", x, 200, true, 100, 7);
    stands("both", x, 1000);
    Due.parts("both", x, 0, 0, 0, 0, 900, 100);
  }

  private static void byFactorIsCut() {
    Due.of(10, "By FACTOR: times FACTOR by 1000, cut");
    after("37 by 1500 is 55", begun(1000, 1500, 0, 7), 37, false, 45, 0);
    PageBuilder x = begun(1000, 1500, 0, 7);
    after("38 by 1500 is 57; of it 30 stand", x, 38, true, 55, 7);
    stands("30", x, 30);
    Due.now("8 are left, on the next page", x, 1, 0, 88);
    after("3 by 500 is 1", begun(1000, 500, 0, 7), 3, false, 99, 0);
    x = begun(3, 500, 0, 7);
    after("cut at 3, by 500 is 1", x, 4, true, 99, 7);
    x = new PageBuilder();
    x.set(1999999, 0, 0);
    x.cls(1000000, 2000, 0, 7);
    after("great heights: 2000000 is 1 too much", x, 1000000, true, 1, 7);
    x = new PageBuilder();
    x.set(2000000, 0, 0);
    x.cls(1000000, 2000, 0, 7);
    after("great heights: 2000000", x, 1000000, false, 0, 0);
  }

  private static void skipOnce() {
    Due.of(10, "if it is the page's first one of its class, GOAL is less by the class's SKIP");
    PageBuilder x = begun(1000, 1000, 30, 7);
    x.cls(1000, 1000, 3, 100);
    after("it is held", x, 26, false, 70, 7);
    after("the second of the class", x, 1, false, 70, 14);
    x.insert(1, 5, false);
    x.run();
    Due.equal("another class: GOAL", x.now(2), 62);
    Due.equal("another class: INSERTED", x.now(10), 14);
    x.penalty(-10000);
    x.run();
    Due.now("again on the next page", x, 2, 0, 43, 0, 0, 0, 0, 0, 0, Due.NO_COST, 0);
  }

  private static void skipCountsBefore() {
    Due.of(10, "FREE is what the SKIP has left");
    after("25 and 30", begun(1000, 1000, 30, 7), 25, false, 45, 0);
    after("26 and 30", begun(1000, 1000, 30, 7), 26, false, 70, 7);
    PageBuilder x = begun(1000, 1000, 30, 7);
    after("cut", x, 26, true, 55, 7);
    stands("cut", x, 15);
    x = new PageBuilder();
    x.set(0, 0, 0);
    x.cls(1000, 1000, 10000, 7);
    after("below nothing", x, 1, true, -10000, 7);
  }

  private static void heldBehindOneThatIsNotWhole() {
    Due.of(10, "If an insert of the class was cut or held on the page, it is HELD");
    for (int cut = 0; cut < 2; cut++) {
      PageBuilder x = begun(1000, 1000, 0, 7);
      x.cls(1000, 0, 0, 100);
      int goal = cut == 1 ? 55 : 100;
      after("cut or held", x, 60, cut == 1, goal, 7);
      x.kern(-30);
      after("there is space, but none stands", x, 1, true, goal, 14);
      after("nor one that may not be cut", x, 1, false, goal, 21);
      x.insert(1, 3, false);
      x.run();
      Due.equal("another class stands", x.now(10), 21);
      x.penalty(-10000);
      Due.equal("run()", x.run(), 1);
      Due.parts("held", x, 0, 0, 0, 0, cut == 1 ? 45 : 0, 0, 0, 0, 3);
      Due.equal("class 0", x.told(0, 11), cut == 1 ? 45 : 0);
      Due.equal("class 1", x.told(0, 12), 3);
    }
  }

  private static void insertedGrows() {
    Due.of(15, "When cut or held INSERTED grows by the class's PENALTY");
    PageBuilder x = begun(20, 1000, 0, 10000);
    after("it stands", x, 20, true, 80, 0);
    after("held", x, 1, true, 80, 10000);
    after("held again", x, 1, false, 80, 20000);
    x = begun(20, 1000, 0, 1);
    after("cut", x, 21, true, 80, 1);
    x = begun(20, 1000, 0, 0);
    after("a penalty of 0", x, 21, true, 80, 0);
    after("but none stands behind it", x, 1, true, 80, 0);
  }

  /** Lengths times 1000 are more than an int holds. */
  private static void greatFree() {
    Due.of(10, "FREE times 1000: LENGTHS are ints, sums of them longs");
    for (int goal : new int[] {2147484, 3000000, 4294967, 4294968, 10000000}) {
      PageBuilder x = new PageBuilder();
      x.set(goal, 0, 0);
      x.cls(5, 1000, 0, 7);
      after("goal " + goal, x, 10, true, goal - 5, 7);
    }
    for (int boxes = 1; boxes <= 9; boxes++) {
      PageBuilder x = new PageBuilder();
      x.set(0, 0, 0);
      x.cls(5, 1000, 0, 7);
      for (int i = 0; i < boxes; i++) {
        x.box(1000000, 0);
      }
      after("nothing is free, by " + boxes + " boxes", x, 10, true, 0, 7);
    }
  }

  private static void belowTheGoal() {
    Due.of(10, "FREE of a TOTAL below 0");
    for (int height = 110; height <= 111; height++) {
      PageBuilder x = new PageBuilder();
      x.set(100, 0, 0);
      x.cls(1000, 1000, 0, 7);
      x.box(0, 0);
      x.kern(-10);
      boolean fits = height == 110;
      after("height " + height, x, height, false, fits ? -10 : 100, fits ? 0 : 7);
    }
  }

  private static void theRestIsTriedAnew() {
    Due.of(10, "cut (with what is left of their heights): the next page tries what is left, not the height");
    PageBuilder x = new PageBuilder();
    x.set(100, 0, 0);
    x.cls(60, 1000, 0, 7);
    x.insert(0, 120, true);
    x.box(0, 0);
    x.penalty(-10000);
    x.box(0, 0);
    Due.equal("run()", x.run(), 1);
    Due.now("60 stand on each", x, 2, 0, 40, 0, 0, 0, 0, 0, 0, Due.NO_COST, 0, 0, -1, 0);
    x.penalty(-10000);
    Due.equal("run()", x.run(), 1);
    Due.parts("first", x, 0, 60, 0);
    Due.parts("second", x, 1, 60, 0);
    Due.now("nothing is left", x, 0, 0, 100, 0, 0, 0, 0, 0, 0, Due.NO_COST, 0, 0, -1, 0);
    Due.of(18, "their parts with what is left are their height");
    Due.equal("check()", x.check(), 1);
  }
}
