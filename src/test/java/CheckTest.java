import java.lang.reflect.Array;
import java.lang.reflect.Field;

/**
 * Promise 18: check tells 1 in every state that calls can reach, and would tell 0 in others. No calls lead to
 * those, so this test alone reaches into the object and spoils what it holds.
 */
public final class CheckTest {
  private static final int CUT = 1;
  private static final int WHOLE = 2;
  private static final int BOX_ON_PAGE = 0;
  private static final int WENT = 4;
  private static final int BOX_BEING_MADE = 5;
  private static final int HELD = 6;
  private static final int LAST = 7;

  public static void main(String[] args) throws ReflectiveOperationException {
    Due.of(18, "1: on a page, on the one that is made, in the line, or went");
    Due.equal("check()", made().check(), 1);
    itemsOnce();
    insertsWhole();
    Due.end();
  }

  /** A page with a box, a cut insert and a whole one; a page that is made; a kern that waits. */
  private static PageBuilder made() {
    PageBuilder x = new PageBuilder();
    x.set(100, 0, 0);
    x.cls(30, 1000, 0, 0);
    x.cls(30, 1000, 0, 0);
    x.box(10, 0);
    x.insert(0, 40, true);
    x.insert(1, 20, true);
    x.penalty(-10000);
    x.glue(1, 0, 0, 0);
    x.box(10, 0);
    x.insert(1, 31, false);
    x.kern(5);
    x.run();
    Due.items("the first page", x, 0, 0, 1, 2);
    Due.now("the second", x, 3, 10, 90, 0, 0, 0, 0, 0, 0, Due.NO_COST, 0, 1, LAST, 0);
    return x;
  }

  private static void itemsOnce() throws ReflectiveOperationException {
    Due.of(18, "Whether each item stands just once; it would tell 0");
    for (int number : new int[] {BOX_ON_PAGE, WENT, BOX_BEING_MADE, LAST}) {
      PageBuilder x = made();
      Object item = Array.get(get(x, "items"), number);
      boolean went = number == WENT;
      set(item, "went", !went);
      Due.equal("went, or not, of item " + number, x.check(), 0);
      set(item, "went", went);
      Due.equal("as it was, of item " + number, x.check(), 1);
    }
    PageBuilder x = made();
    set(get(x, "line"), "size", 0);
    Due.equal("lost from the line", x.check(), 0);
    x = made();
    set(get(x, "draft"), "size", 1);
    Due.equal("lost from the page that is made", x.check(), 0);
    x = made();
    set(x, "pageCount", 0);
    Due.equal("lost with a page", x.check(), 0);
    x = made();
    Array.set(get(get(x, "draft"), "items"), 0, Array.get(get(x, "items"), BOX_BEING_MADE));
    Due.equal("twice on the page that is made", x.check(), 0);
    x = made();
    Array.setInt(get(Array.get(get(x, "pages"), 0), "numbers"), 2, BOX_ON_PAGE);
    Due.equal("twice on a page", x.check(), 0);
  }

  private static void insertsWhole() throws ReflectiveOperationException {
    Due.of(18, "inserts that were cut: their parts with what is left are their height; it would tell 0");
    for (int number : new int[] {CUT, WHOLE, HELD}) {
      for (int more = -1; more <= 1; more += 2) {
        PageBuilder x = made();
        Object item = Array.get(get(x, "items"), number);
        int left = number == CUT ? 10 : number == HELD ? 31 : 0;
        set(item, "left", left + more);
        Due.equal("what is left of item " + number + ", " + more, x.check(), 0);
        set(item, "left", left);
        Due.equal("as it was, of item " + number, x.check(), 1);
        Object parts = get(Array.get(get(x, "pages"), 0), "parts");
        if (number != HELD) {
          Array.setInt(parts, number, Array.getInt(parts, number) + more);
          Due.equal("what stands of item " + number + ", " + more, x.check(), 0);
        }
      }
    }
    PageBuilder x = made();
    Array.set(get(get(x, "draft"), "items"), 0, Array.get(get(x, "items"), WHOLE));
    Due.equal("a whole one on the next page, too", x.check(), 0);
  }

  private static Field field(Object of, String name) throws ReflectiveOperationException {
    Field f = of.getClass().getDeclaredField(name);
    f.setAccessible(true);
    return f;
  }

  private static Object get(Object of, String name) throws ReflectiveOperationException {
    return field(of, name).get(of);
  }

  private static void set(Object of, String name, Object value) throws ReflectiveOperationException {
    field(of, name).set(of, value);
  }
}
