/** Promise 2: which pages a set reaches. Its ranges are in RangesTest. */
public final class SettingsTest {
  public static void main(String[] args) {
    onAnEmptyPage();
    againOnAnEmptyPage();
    onAPageWithOneItem();
    whileItemsWait();
    asAPageEnds();
    Due.end();
  }

  private static void onAnEmptyPage() {
    Due.of(2, "A page with no item on it yet begins anew with them");
    PageBuilder x = new PageBuilder();
    x.glue(5, 5, 0, 5);
    x.penalty(3);
    x.kern(4);
    x.run();
    Due.equal("what went leaves the page empty: set", x.set(100, 2, 30), 1);
    Due.now("empty page", x, 0, 0, 100, 0);
    x.box(20, 5);
    x.run();
    Due.now("first box", x, 1, 33, 100, 2);
    x.box(20, 1);
    x.run();
    Due.now("TOP is for the first box alone", x, 2, 55, 100, 1);
  }

  private static void againOnAnEmptyPage() {
    Due.of(2, "A page with no item on it yet begins anew with them: the last set counts");
    PageBuilder x = new PageBuilder();
    Due.equal("set", x.set(100, 2, 30), 1);
    Due.equal("set", x.set(200, 4, 25), 1);
    Due.equal("set to the same", x.set(200, 4, 25), 1);
    x.box(20, 9);
    x.run();
    Due.now("the last", x, 1, 30, 200, 4);
  }

  /** One item of each kind that can be alone on a page: mark, insert and box. */
  private static void onAPageWithOneItem() {
    Due.of(2, "of pages that begin from now on: not of one that has an item");
    for (int kind = 0; kind < 3; kind++) {
      PageBuilder x = new PageBuilder();
      x.set(100, 0, 50);
      x.cls(100, 1000, 0, 0);
      if (kind == 0) {
        x.mark(7);
      } else if (kind == 1) {
        x.insert(0, 10, false);
      } else {
        x.box(10, 0);
      }
      x.run();
      Due.equal("one item is on it", x.now(0), 1);
      Due.equal("set", x.set(200, 5, 70), 1);
      Due.equal("GOAL is as it was", x.now(2), kind == 1 ? 90 : 100);
      x.box(10, 20);
      x.run();
      Due.now("so are TOP and DEPTH", x, 2, kind == 2 ? 80 : 70, kind == 1 ? 90 : 100, 0);
      x.penalty(-10000);
      x.box(10, 20);
      Due.equal("run()", x.run(), 1);
      Due.now("the next begins with it", x, 1, 85, 200, 5);
    }
  }

  private static void whileItemsWait() {
    Due.of(2, "A page with no item on it yet begins anew with them: those in the line are not on it");
    PageBuilder x = new PageBuilder();
    x.box(10, 20);
    x.box(10, 20);
    Due.equal("set", x.set(300, 7, 15), 1);
    Due.equal("GOAL", x.now(2), 300);
    x.run();
    Due.now("both boxes", x, 2, 58, 300, 7);
  }

  private static void asAPageEnds() {
    Due.of(2, "of pages that begin from now on: one that begins before is as it was");
    PageBuilder x = new PageBuilder();
    x.set(100, 0, 0);
    x.box(10, 0);
    x.penalty(-10000);
    x.box(10, 0);
    x.run();
    Due.equal("set", x.set(50, 0, 0), 1);
    Due.equal("the page that is made", x.now(2), 100);
    Due.equal("the page that ended", x.told(0, 2), 100);
    x.penalty(-10000);
    x.run();
    Due.equal("the next one, empty", x.now(2), 50);
    Due.equal("the second", x.told(1, 2), 100);
  }
}
