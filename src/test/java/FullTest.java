/** Promises 3 to 10: an object that is full: of items, of classes, of pages; and its last calls. */
public final class FullTest {
  private static final int MOST = 400;

  public static void main(String[] args) {
    classes();
    for (int kind = 0; kind < 6; kind++) {
      theLastItem(kind);
    }
    fullInTheLine();
    itemsThatWentCount();
    fullAndCut();
    fiftyNineAndOne();
    nothingIsTakenBehindSixty();
    sixtyInOneRun();
    lastCalls();
    Due.end();
  }

  private static void classes() {
    Due.of(3, "-4 there are 4");
    PageBuilder x = new PageBuilder();
    for (int i = 0; i < 4; i++) {
      Due.equal("cls number", x.cls(10 + i, 1000, i, 1), i);
    }
    Due.equal("a fifth", x.cls(1, 1, 1, 1), -4);
    Due.equal("a fifth, again", x.cls(0, 0, 0, 0), -4);
    Due.of(3, "-2 before -4");
    Due.equal("outside a range", x.cls(-1, 1, 1, 1), -2);
    Due.equal("outside a range", x.cls(1, 2001, 1, 1), -2);
    Due.equal("outside a range", x.cls(1, 1, 10001, 1), -2);
    Due.equal("outside a range", x.cls(1, 1, 1, 10001), -2);
    Due.of(3, "-4 changes nothing");
    Due.equal("count", x.count(1), 4);
    Due.equal("the last one is known", x.insert(3, 13, false), 0);
    Due.equal("one behind is not", x.insert(4, 1, false), -1);
    x.box(0, 0);
    x.penalty(-10000);
    x.run();
    Due.told("its room and skip are its own", x, 0, 2, 0, 984, 0, 0, 0, 0, 0, 0, -10000, -10000, 0, 0, 0, 13);
  }

  /** One item of each kind, by its promise's number less 4. */
  private static int tell(PageBuilder x, int kind) {
    switch (kind) {
      case 0: return x.box(0, 0);
      case 1: return x.glue(0, 0, 0, 0);
      case 2: return x.kern(0);
      case 3: return x.penalty(10000);
      case 4: return x.insert(0, 1, true);
      default: return x.mark(1);
    }
  }

  private static int tellOutside(PageBuilder x, int kind) {
    switch (kind) {
      case 0: return x.box(0, -1);
      case 1: return x.glue(0, 0, 4, 0);
      case 2: return x.kern(1000001);
      case 3: return x.penalty(10001);
      default: return x.insert(0, 0, true);
    }
  }

  /** The 400th item is of this kind; behind it none of any kind is taken. */
  private static void theLastItem(int kind) {
    PageBuilder x = new PageBuilder();
    x.cls(1000, 0, 0, 0);
    for (int i = 0; i < MOST - 1; i++) {
      x.mark(i);
    }
    Due.of(4 + kind, "ITEMS, at most 400: its number");
    Due.equal("the last", tell(x, kind), MOST - 1);
    refuseAll(x);
    x.run();
    refuseAll(x);
    boolean goes = kind >= 1 && kind <= 3;
    Due.of(10, "a full line is taken as any other");
    Due.equal("on the page", x.now(0), goes ? MOST - 1 : MOST);
    Due.equal("in the line", x.now(11), 0);
    Due.of(18, "each item stands just once: 400 of them");
    Due.equal("check()", x.check(), 1);
  }

  private static void refuseAll(PageBuilder x) {
    for (int kind = 0; kind < 6; kind++) {
      Due.of(4 + kind, "-4 no room");
      Due.equal("the 401st", tell(x, kind), -4);
      if (kind < 5) {
        Due.of(4 + kind, "-2 before -4");
        Due.equal("the 401st, outside a range", tellOutside(x, kind), -2);
      }
    }
    Due.of(8, "-1 before -2 and -4");
    Due.equal("the 401st, of no class", x.insert(1, 1, true), -1);
    Due.equal("the 401st, of no class and no height", x.insert(-1, 0, true), -1);
    Due.of(17, "refused items are not counted");
    Due.equal("count(0)", x.count(0), MOST);
  }

  private static void fullInTheLine() {
    Due.of(15, "items in the line: 400");
    PageBuilder x = new PageBuilder();
    for (int i = 0; i < MOST; i++) {
      x.box(1, 0);
    }
    Due.equal("now(11)", x.now(11), MOST);
    Due.equal("now(12)", x.now(12), 0);
    Due.equal("a refused one is not in it", x.box(1, 0), -4);
    Due.equal("now(11)", x.now(11), MOST);
    x.run();
    Due.now("all on the page", x, MOST, MOST, 1000, 0);
  }

  /** Items that are on no page any more still have their numbers. */
  private static void itemsThatWentCount() {
    Due.of(5, "ITEMS, at most 400, of all that were told");
    PageBuilder x = new PageBuilder();
    for (int i = 0; i < MOST; i++) {
      Due.equal("glue", x.glue(1, 1, 1, 1), i);
      if (i % 100 == 99) {
        x.run();
      }
    }
    Due.now("none is there", x, 0, 0, 1000, 0, 0, 0, 0, 0, 0, Due.NO_COST, 0, 0, -1, 0);
    Due.equal("glue", x.glue(1, 1, 1, 1), -4);
    Due.of(18, "or went");
    Due.equal("check()", x.check(), 1);
  }

  /** 399 items come to stand on the page, and all but the first three of them go back. */
  private static void fullAndCut() {
    Due.of(10, "those from there on, with all that are on it behind, go back: of 400 items");
    PageBuilder x = new PageBuilder();
    x.set(105, 0, 0);
    x.cls(1, 1000, 0, 0);
    x.insert(0, 5, true);
    x.box(104, 0);
    x.penalty(0);
    for (int i = 3; i < MOST - 2; i++) {
      x.mark(i);
    }
    x.box(100, 0);
    x.penalty(0);
    Due.equal("run()", x.run(), 1);
    Due.told("the first place is the best", x, 0, 2, 104, 104, 0, 0, 0, 0, 0, 0, 0, 0, 1);
    Due.items("the first place is the best", x, 0, 0, 1);
    Due.marks("no mark is on it", x, 0, 0, 0, 0);
    Due.now("the rest of the insert, all marks, box and penalty", x, MOST - 2, 100, 104, 0, 0, 0, 0, 0, 0, Due.BAD);
    Due.equal("check()", x.check(), 1);
    Due.equal("no more", x.mark(1), -4);
    Due.equal("run()", x.run(), 0);
  }

  /** Pages of a box and a forced break. */
  private static void pages(PageBuilder x, int many) {
    for (int i = 0; i < many; i++) {
      x.box(10, 0);
      x.penalty(-10000);
    }
  }

  private static void fiftyNineAndOne() {
    Due.of(10, "At most 60 end in all: then nothing more is taken");
    PageBuilder x = new PageBuilder();
    pages(x, 59);
    Due.equal("run()", x.run(), 59);
    x.box(10, 0);
    Due.equal("run()", x.run(), 0);
    Due.equal("a box is taken", x.now(0), 1);
    x.penalty(-10000);
    x.box(20, 0);
    Due.equal("the 60th ends", x.run(), 1);
    Due.equal("count(2)", x.count(2), 60);
    Due.items("the 60th", x, 59, 118);
    Due.now("the box waits", x, 0, 0, 1000, 0, 0, 0, 0, 0, 0, Due.NO_COST, 0, 1, 120, 0);
    x.penalty(-10000);
    Due.equal("run()", x.run(), 0);
    Due.now("both wait", x, 0, 0, 1000, 0, 0, 0, 0, 0, 0, Due.NO_COST, 0, 2, 120, 0);
    Due.equal("run() again", x.run(), 0);
    Due.of(13, "page 59 is the last");
    Due.equal("told(59, 0)", x.told(59, 0), 1);
    Due.equal("told(60, 0)", x.told(60, 0), -1);
    Due.of(14, "page 59 is the last");
    Due.marks("sixty", x, 59, 0, 0, 0);
    Due.noMark("sixty", x, 60, 0);
    Due.of(18, "in the line");
    Due.equal("check()", x.check(), 1);
  }

  /** Items of each kind alone behind the 60th page: what would go, or be on the page, stays in the line. */
  private static void nothingIsTakenBehindSixty() {
    for (int kind = 0; kind < 6; kind++) {
      PageBuilder x = new PageBuilder();
      x.cls(10, 1000, 0, 0);
      pages(x, 60);
      Due.of(10, "At most 60 end in all: then nothing more is taken");
      Due.equal("run()", x.run(), 60);
      Due.of(4 + kind, "its number, behind the 60th page too");
      Due.equal("tell", tell(x, kind), 120);
      Due.of(10, "At most 60 end in all: then nothing more is taken, of kind " + kind);
      Due.equal("run()", x.run(), 0);
      Due.now("it waits", x, 0, 0, 1000, 0, 0, 0, 0, 0, 0, Due.NO_COST, 0, 1, 120, kind == 4 ? 1 : 0);
      Due.of(2, "A page with no item on it yet begins anew with them, behind the 60th too");
      Due.equal("set", x.set(7, 0, 0), 1);
      Due.equal("now(2)", x.now(2), 7);
      Due.of(3, "its number, behind the 60th page too");
      Due.equal("cls", x.cls(1, 1, 1, 1), 1);
      Due.of(18, "in the line");
      Due.equal("check()", x.check(), 1);
    }
  }

  private static void sixtyInOneRun() {
    Due.of(10, "At most 60 end in all: an insert is cut on each of them");
    PageBuilder x = new PageBuilder();
    x.set(100, 0, 0);
    x.cls(1, 1000, 0, 0);
    x.insert(0, 100, true);
    pages(x, 61);
    Due.equal("run()", x.run(), 60);
    for (int page = 0; page < 60; page++) {
      Due.items("sixty", x, page, 0, 1 + 2 * page);
      Due.parts("sixty", x, page, 1, 0);
    }
    Due.of(15, "what is left of its height");
    Due.now("sixty", x, 0, 0, 100, 0, 0, 0, 0, 0, 0, Due.NO_COST, 0, 3, 0, 40);
    Due.of(18, "their parts with what is left are their height");
    Due.equal("check()", x.check(), 1);
  }

  /** 512 calls: the last ones answer as all others do. */
  private static void lastCalls() {
    Due.of(10, "An object is used for at most 512 calls");
    PageBuilder x = new PageBuilder();
    int calls = 0;
    for (int i = 0; i < MOST; i++) {
      Due.equal("call " + calls++, i % 2 == 0 ? x.box(1, 0) : x.penalty(-10000), i);
      if (i % 4 == 3 && calls < 500) {
        Due.equal("call " + calls++, x.run(), i < 120 ? 2 : 0);
      }
    }
    while (calls < 510) {
      Due.equal("call " + calls++, x.count(2), 60);
    }
    Due.equal("call 511", x.now(11), 280);
    Due.equal("call 512", x.check(), 1);
  }
}
