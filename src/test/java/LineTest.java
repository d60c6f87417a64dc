/** Promises 4 to 10, 15 and 17: how items are numbered, and that the line keeps them in the order of their telling. */
public final class LineTest {
  public static void main(String[] args) {
    numbersOfAllKinds();
    countedWhereverTheyAre();
    takenInOrder();
    toldBehindOneThatWaits();
    Due.end();
  }

  /** Refusals, settings, classes, questions and runs between them take no number. */
  private static void numbersOfAllKinds() {
    PageBuilder x = new PageBuilder();
    x.cls(100, 1000, 0, 0);
    for (int round = 0; round < 10; round++) {
      int from = 6 * round;
      Due.of(4, "ITEMS are numbered from 0 as they are told");
      Due.equal("refused box", x.box(-1, 0), -2);
      Due.equal("box", x.box(5, 1), from);
      Due.of(5, "ITEMS are numbered from 0 as they are told");
      Due.equal("refused glue", x.glue(0, 0, 4, 0), -2);
      Due.equal("glue", x.glue(1, 1, 0, 1), from + 1);
      x.set(100 + round, 0, 0);
      Due.of(6, "ITEMS are numbered from 0 as they are told");
      Due.equal("refused kern", x.kern(1000001), -2);
      Due.equal("kern", x.kern(2), from + 2);
      Due.of(7, "ITEMS are numbered from 0 as they are told");
      Due.equal("refused penalty", x.penalty(10001), -2);
      Due.equal("penalty", x.penalty(-10000), from + 3);
      x.run();
      Due.of(8, "ITEMS are numbered from 0 as they are told");
      Due.equal("refused insert", x.insert(9, 5, true), -1);
      Due.equal("insert", x.insert(0, 5, true), from + 4);
      x.cls(1, 1, 1, 1);
      Due.of(9, "ITEMS are numbered from 0 as they are told");
      Due.equal("mark", x.mark(round), from + 5);
      x.check();
    }
  }

  private static void countedWhereverTheyAre() {
    Due.of(17, "How many items there are: on pages, on the one that is made, in the line, and gone");
    PageBuilder x = new PageBuilder();
    x.glue(1, 1, 1, 1);
    Due.equal("in the line", x.count(0), 1);
    x.run();
    Due.equal("gone", x.count(0), 1);
    x.box(10, 0);
    x.run();
    Due.equal("on the page that is made", x.count(0), 2);
    x.penalty(-10000);
    x.run();
    Due.equal("on a page, and a penalty that went", x.count(0), 3);
    Due.equal("the line is empty", x.now(11), 0);
  }

  /** 90 boxes and marks in portions, each ninth item a forced break. */
  private static void takenInOrder() {
    Due.of(10, "Told items stand in THE LINE, in order; items are taken from the line's front, one by one");
    PageBuilder x = new PageBuilder();
    int pages = 0;
    for (int i = 0; i < 90; i++) {
      switch (i % 9) {
        case 8 -> x.penalty(-10000);
        case 1, 4, 5 -> x.mark(i);
        default -> x.box(1, 0);
      }
      if (i % 20 == 19 || i == 89) {
        pages += x.run();
      }
    }
    Due.equal("pages", pages, 10);
    for (int page = 0; page < 10; page++) {
      int from = 9 * page;
      Due.items("in order", x, page, from, from + 1, from + 2, from + 3, from + 4, from + 5, from + 6, from + 7);
      Due.marks("in order", x, page, page == 0 ? 0 : from - 4, from + 1, from + 5);
    }
  }

  private static void toldBehindOneThatWaits() {
    PageBuilder x = new PageBuilder();
    x.cls(100, 1000, 0, 0);
    x.box(10, 0);
    x.kern(3);
    x.run();
    Due.of(15, "items in the line, the first one's number");
    Due.now("the kern waits", x, 1, 10, 1000, 0, 0, 0, 0, 0, 0, Due.NO_COST, 0, 1, 1, 0);
    x.insert(0, 7, true);
    x.box(20, 0);
    Due.now("before what is told behind it", x, 1, 10, 1000, 0, 0, 0, 0, 0, 0, Due.NO_COST, 0, 3, 1, 0);
    x.penalty(-10000);
    Due.equal("run()", x.run(), 1);
    Due.of(10, "Told items stand in THE LINE, in order: behind one that waits");
    Due.items("in order", x, 0, 0, 1, 2, 3);
    Due.told("in order", x, 0, 4, 33, 993, 0);
  }
}
