/** Promises 4 to 9: the six kinds of items, their ranges, numbers and refusals. */
public final class ItemsTest {
  private static final int MOST = 1000000;

  public static void main(String[] args) {
    edgesAreTaken();
    outsideIsRefused();
    fullIsRefused();
    Due.end();
  }

  private static void edgesAreTaken() {
    PageBuilder x = new PageBuilder();
    x.cls(1, 1, 1, 1);
    int n = 0;
    Due.equal("box least", x.box(0, 0), n++);
    Due.equal("box greatest", x.box(MOST, MOST), n++);
    Due.equal("glue least", x.glue(-MOST, 0, 0, 0), n++);
    Due.equal("glue greatest", x.glue(MOST, MOST, 3, MOST), n++);
    Due.equal("kern least", x.kern(-MOST), n++);
    Due.equal("kern greatest", x.kern(MOST), n++);
    Due.equal("penalty least", x.penalty(-10000), n++);
    Due.equal("penalty greatest", x.penalty(10000), n++);
    Due.equal("insert least", x.insert(0, 1, false), n++);
    Due.equal("insert greatest", x.insert(0, MOST, true), n++);
    Due.equal("mark least", x.mark(Integer.MIN_VALUE), n++);
    Due.equal("mark greatest", x.mark(Integer.MAX_VALUE), n++);
    Due.equal("all are counted", x.count(0), n);
    Due.equal("all are in the line", x.now(11), n);
    Due.equal("the first is the line's front", x.now(12), 0);
    Due.equal("none is on the page before run", x.now(0), 0);
  }

  private static void outsideIsRefused() {
    PageBuilder x = new PageBuilder();
    x.cls(1, 1, 1, 1);
    int[] below = {-1, Integer.MIN_VALUE};
    int[] above = {MOST + 1, Integer.MAX_VALUE};
    for (int i = 0; i < 2; i++) {
      Due.equal("box height below", x.box(below[i], 0), -2);
      Due.equal("box height above", x.box(above[i], 0), -2);
      Due.equal("box depth below", x.box(0, below[i]), -2);
      Due.equal("box depth above", x.box(0, above[i]), -2);
      Due.equal("glue natural above", x.glue(above[i], 0, 0, 0), -2);
      Due.equal("glue stretch below", x.glue(0, below[i], 0, 0), -2);
      Due.equal("glue stretch above", x.glue(0, above[i], 0, 0), -2);
      Due.equal("glue order below", x.glue(0, 0, below[i], 0), -2);
      Due.equal("glue shrink below", x.glue(0, 0, 0, below[i]), -2);
      Due.equal("glue shrink above", x.glue(0, 0, 0, above[i]), -2);
      Due.equal("kern above", x.kern(above[i]), -2);
      Due.equal("insert height above", x.insert(0, above[i], true), -2);
      Due.equal("insert height below", x.insert(0, below[i], true), -2);
      Due.equal("insert class below", x.insert(below[i], 1, true), -1);
    }
    Due.equal("glue natural below", x.glue(-MOST - 1, 0, 0, 0), -2);
    Due.equal("glue natural least int", x.glue(Integer.MIN_VALUE, 0, 0, 0), -2);
    Due.equal("glue order above", x.glue(0, 0, 4, 0), -2);
    Due.equal("kern below", x.kern(-MOST - 1), -2);
    Due.equal("penalty below", x.penalty(-10001), -2);
    Due.equal("penalty above", x.penalty(10001), -2);
    Due.equal("insert height 0", x.insert(0, 0, true), -2);
    Due.equal("insert class above", x.insert(1, 1, true), -1);
    Due.equal("insert: an unknown class comes first", x.insert(1, 0, true), -1);
    Due.equal("refusals tell no item", x.count(0), 0);
    Due.equal("nor put one in the line", x.now(11), 0);
  }

  private static void fullIsRefused() {
    PageBuilder x = new PageBuilder();
    x.cls(1, 1, 1, 1);
    for (int i = 0; i < 400; i++) {
      Due.equal("mark number", x.mark(i), i);
    }
    refuseAll(x);
    x.run();
    Due.equal("all are on the page", x.now(0), 400);
    refuseAll(x);
    Due.equal("full: outside a range comes first, box", x.box(-1, 0), -2);
    Due.equal("full: outside a range comes first, glue", x.glue(0, 0, 4, 0), -2);
    Due.equal("full: outside a range comes first, kern", x.kern(MOST + 1), -2);
    Due.equal("full: outside a range comes first, penalty", x.penalty(10001), -2);
    Due.equal("full: outside a range comes first, insert", x.insert(0, 0, true), -2);
    Due.equal("full: an unknown class comes first", x.insert(-1, 0, true), -1);
    Due.equal("full: count", x.count(0), 400);
    Due.equal("full: check", x.check(), 1);
  }

  private static void refuseAll(PageBuilder x) {
    Due.equal("full: box", x.box(0, 0), -4);
    Due.equal("full: glue", x.glue(0, 0, 0, 0), -4);
    Due.equal("full: kern", x.kern(0), -4);
    Due.equal("full: penalty", x.penalty(0), -4);
    Due.equal("full: insert", x.insert(0, 1, true), -4);
    Due.equal("full: mark", x.mark(0), -4);
  }
}
