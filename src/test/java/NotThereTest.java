/** Promises 8, 11 to 15 and 17: a class, a page, an item or a question that is not there. */
public final class NotThereTest {
  private static final int LOWEST = Integer.MIN_VALUE;
  private static final int HIGHEST = Integer.MAX_VALUE;

  public static void main(String[] args) {
    classes();
    pages();
    itemsOfAPage();
    partsOfOtherItems();
    questions();
    thePageThatIsMade();
    Due.end();
  }

  private static void classes() {
    Due.of(8, "-1 no such class");
    PageBuilder x = new PageBuilder();
    int told = 0;
    for (int there = 0; there <= 4; there++) {
      Due.equal("the first that is not there, of " + there, x.insert(there, 5, true), -1);
      for (int cls : new int[] {LOWEST, -1, 4, 5, HIGHEST}) {
        Due.equal("class " + cls + " of " + there, x.insert(cls, 5, true), -1);
      }
      for (int cls = 0; cls < there; cls++) {
        Due.equal("class " + cls + " of " + there, x.insert(cls, 5, true), told++);
      }
      Due.equal("items", x.count(0), told);
      x.cls(10, 1000, 0, 0);
    }
  }

  /** Three pages: of one item, of a mark, an insert, a kern, a penalty, glue and boxes, and of one item. */
  private static PageBuilder threePages() {
    PageBuilder x = new PageBuilder();
    x.set(100, 0, 0);
    x.cls(30, 1000, 0, 0);
    x.box(10, 0);
    x.penalty(-10000);
    x.mark(4);
    x.insert(0, 20, true);
    x.box(10, 0);
    x.kern(3);
    x.penalty(10000);
    x.glue(2, 0, 0, 0);
    x.insert(0, 11, false);
    x.penalty(-10000);
    x.box(10, 0);
    x.penalty(-10000);
    return x;
  }

  private static void pages() {
    for (int runs = 0; runs < 2; runs++) {
      PageBuilder x = threePages();
      int there = runs == 0 ? 0 : x.run();
      Due.of(10, "how many pages ended");
      Due.equal("pages", there, runs * 3);
      Due.equal("count(2)", x.count(2), there);
      for (int page : new int[] {LOWEST, -1, there, there + 1, 60, HIGHEST}) {
        Due.of(11, "NONE when there is none such: page " + page + " of " + there);
        Due.equal("at(.., 0)", x.at(page, 0), -1);
        Due.of(12, "0 when there is none such: page " + page + " of " + there);
        Due.equal("part(.., 0)", x.part(page, 0), 0);
        Due.equal("part(.., 1)", x.part(page, 1), 0);
        Due.of(13, "NONE for others: page " + page + " of " + there);
        for (int what = -1; what <= 15; what++) {
          Due.equal("told(.., " + what + ")", x.told(page, what), -1);
        }
        Due.of(14, "there is no such page");
        for (int which = -1; which <= 3; which++) {
          Due.noMark("of " + there, x, page, which);
        }
      }
    }
  }

  private static void itemsOfAPage() {
    PageBuilder x = threePages();
    x.run();
    Due.of(11, "Item i of a page that ended, from 0; NONE when there is none such");
    Due.items("one item", x, 0, 0);
    Due.items("seven items", x, 1, 2, 3, 4, 5, 6, 7, 8);
    Due.items("the held insert and a box", x, 2, 8, 10);
    int[] sizes = {1, 7, 2};
    for (int page = 0; page < 3; page++) {
      for (int i : new int[] {LOWEST, -1, sizes[page], sizes[page] + 1, 400, HIGHEST}) {
        Due.of(11, "NONE when there is none such");
        Due.equal("at(" + page + ", " + i + ")", x.at(page, i), -1);
        Due.of(12, "0 when there is none such");
        Due.equal("part(" + page + ", " + i + ")", x.part(page, i), 0);
      }
    }
  }

  private static void partsOfOtherItems() {
    PageBuilder x = threePages();
    x.run();
    Due.of(12, "0 for other items: mark, box, kern, penalty, glue; an insert that is held");
    Due.parts("one item", x, 0, 0);
    Due.parts("seven items", x, 1, 0, 20, 0, 0, 0, 0, 0);
    Due.parts("the held insert and a box", x, 2, 11, 0);
  }

  private static void questions() {
    PageBuilder x = threePages();
    x.run();
    for (int far : new int[] {LOWEST, -2, -1, HIGHEST}) {
      Due.of(13, "NONE for others");
      Due.equal("told(0, " + far + ")", x.told(0, far), -1);
      Due.of(14, "there is no such which");
      Due.noMark("three pages", x, 0, far);
      Due.of(15, "NONE for others");
      Due.equal("now(" + far + ")", x.now(far), -1);
      Due.of(17, "NONE for others");
      Due.equal("count(" + far + ")", x.count(far), -1);
    }
    Due.of(13, "NONE for others: 14 is the last");
    Due.equal("told(0, 14)", x.told(0, 14), 0);
    Due.equal("told(0, 15)", x.told(0, 15), -1);
    Due.of(14, "there is no such which: 2 is the last");
    Due.equal("marked(1, 2)", x.marked(1, 2), 4);
    Due.noMark("three pages", x, 1, 3);
    Due.noMark("three pages", x, 2, 3);
    Due.of(15, "NONE for others: 13 is the last");
    Due.equal("now(13)", x.now(13), 0);
    Due.equal("now(14)", x.now(14), -1);
    Due.of(17, "NONE for others: 2 is the last");
    Due.equal("count(2)", x.count(2), 3);
    Due.equal("count(3)", x.count(3), -1);
  }

  /** The page that is made has items and a cost, but it has not ended. */
  private static void thePageThatIsMade() {
    PageBuilder x = new PageBuilder();
    x.set(100, 0, 0);
    x.mark(5);
    x.box(100, 0);
    x.penalty(0);
    x.run();
    Due.of(15, "Of the page that is made");
    Due.now("made", x, 3, 100, 100, 0, 0, 0, 0, 0, 0, 0, 0, 0, -1, 0);
    Due.of(11, "Item i of a page that ended");
    Due.equal("at(0, 0)", x.at(0, 0), -1);
    Due.of(13, "Of a page that ended");
    Due.equal("told(0, 0)", x.told(0, 0), -1);
    Due.of(14, "of a page that ended");
    Due.noMark("made", x, 0, 0);
    Due.of(17, "pages that ended");
    Due.equal("count(2)", x.count(2), 0);
  }
}
