/** Promises 1 to 3: a new object, set and cls. */
public final class SettingsTest {
  private static final long NO_COST = 1073741823L;

  public static void main(String[] args) {
    newObject();
    setRanges();
    setOnAnEmptyPage();
    setOnAPageWithAnItem();
    classRanges();
    classesAreFour();
    Due.end();
  }

  private static void newObject() {
    PageBuilder x = new PageBuilder();
    Due.equal("NONE", PageBuilder.NONE, -1);
    for (int what = 0; what < 3; what++) {
      Due.equal("new: count(" + what + ")", x.count(what), 0);
    }
    Due.now("new", x, 0, 0, 1000, 0, 0, 0, 0, 0, 0, NO_COST, 0, 0, -1, 0);
    Due.equal("new: run()", x.run(), 0);
    Due.equal("new: check()", x.check(), 1);
    Due.equal("new: told(0, 0)", x.told(0, 0), -1);
    Due.equal("new: at(0, 0)", x.at(0, 0), -1);
    Due.equal("new: part(0, 0)", x.part(0, 0), 0);
    Due.equal("new: insert of no class", x.insert(0, 5, true), -1);
    Due.noMark("new", x, 0, 0);
    x.box(10, 4);
    x.run();
    Due.now("new: the greatest depth is 0, TOP is 0", x, 1, 14, 1000, 0);
  }

  private static void setRanges() {
    PageBuilder x = new PageBuilder();
    int most = 10000000;
    Due.equal("set: least", x.set(0, 0, 0), 1);
    Due.equal("set: goal 0", x.now(2), 0);
    Due.equal("set: greatest", x.set(most, most, most), 1);
    int[] outside = {-1, most + 1, Integer.MIN_VALUE, Integer.MAX_VALUE};
    for (int v : outside) {
      Due.equal("set: goal " + v, x.set(v, 1, 1), -2);
      Due.equal("set: depth " + v, x.set(1, v, 1), -2);
      Due.equal("set: top " + v, x.set(1, 1, v), -2);
    }
    Due.equal("set: a refusal changes nothing", x.now(2), most);
    x.box(1000000, 1000000);
    x.run();
    Due.now("set: nor depth and top", x, 1, most, most, 1000000);
  }

  private static void setOnAnEmptyPage() {
    PageBuilder x = new PageBuilder();
    x.glue(5, 5, 0, 5);
    x.penalty(3);
    x.run();
    Due.equal("set: what went leaves the page empty", x.set(100, 2, 30), 1);
    Due.now("set: empty page", x, 0, 0, 100, 0);
    x.box(20, 5);
    x.run();
    Due.now("set: first box", x, 1, 33, 100, 2);
    x.box(20, 1);
    x.run();
    Due.now("set: TOP is for the first box alone", x, 2, 55, 100, 1);
  }

  private static void setOnAPageWithAnItem() {
    PageBuilder x = new PageBuilder();
    x.set(100, 0, 50);
    x.mark(7);
    x.run();
    Due.equal("set: page with a mark", x.set(200, 5, 70), 1);
    x.box(10, 20);
    x.run();
    Due.now("set: the page goes on as it began", x, 2, 70, 100, 0);
    x.penalty(-10000);
    x.box(10, 20);
    Due.equal("set: run()", x.run(), 1);
    Due.now("set: the next begins with it", x, 1, 85, 200, 5);
  }

  private static void classRanges() {
    PageBuilder x = new PageBuilder();
    int[] most = {10000000, 2000, 10000, 10000};
    int[] edges = {-1, Integer.MIN_VALUE, Integer.MAX_VALUE};
    for (int field = 0; field < 4; field++) {
      for (int edge : edges) {
        Due.equal("cls: field " + field + " is " + edge, oneOff(x, field, edge), -2);
      }
      Due.equal("cls: field " + field + " too great", oneOff(x, field, most[field] + 1), -2);
    }
    Due.equal("cls: refusals make none", x.count(1), 0);
    Due.equal("cls: least", x.cls(0, 0, 0, 0), 0);
    Due.equal("cls: greatest", x.cls(most[0], most[1], most[2], most[3]), 1);
    Due.equal("cls: count", x.count(1), 2);
  }

  private static int oneOff(PageBuilder x, int field, int value) {
    int[] v = {1, 1, 1, 1};
    v[field] = value;
    return x.cls(v[0], v[1], v[2], v[3]);
  }

  private static void classesAreFour() {
    PageBuilder x = new PageBuilder();
    for (int i = 0; i < 4; i++) {
      Due.equal("cls: number", x.cls(1, 1, 1, 1), i);
    }
    Due.equal("cls: a fifth", x.cls(1, 1, 1, 1), -4);
    Due.equal("cls: outside a range comes first", x.cls(-1, 1, 1, 1), -2);
    Due.equal("cls: count of four", x.count(1), 4);
    Due.equal("cls: the last one is known", x.insert(3, 1, true), 0);
    Due.equal("cls: one behind is not", x.insert(4, 1, true), -1);
  }
}
