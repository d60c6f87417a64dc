/** Promise 10: what goes at a page's top, which kern waits, and where a page may break and where not. */
public final class PlacesTest {
  private static final String GO = "Glue, kern and penalty go as long as no box is on it";
  private static final String WAITS = "A kern that is the last in the line is not taken yet (all else stays, too)";

  public static void main(String[] args) {
    whatGoesAtTheTop();
    whatGoesIsOnNoPage();
    aBoxEndsTheTop();
    theTopOfTheNextPage();
    lastKernAtTheTop();
    lastKernBehindABox();
    kernBeforeEachKind();
    glueBehindEachKind();
    priceOfGlueAndKern();
    penaltiesThatArePlaces();
    otherKindsAreNoPlaces();
    glueThatIsToldLater();
    breakBeforeAKern();
    Due.end();
  }

  /** A page of goal 100 with a box of 10: a place there costs 100000, as there is no stretch. */
  private static PageBuilder begun() {
    PageBuilder x = new PageBuilder();
    x.set(100, 0, 0);
    x.cls(1000, 0, 0, 0);
    x.box(10, 0);
    return x;
  }

  private static void tell(PageBuilder x, char kind) {
    switch (kind) {
      case 'b' -> x.box(0, 0);
      case 'g' -> x.glue(0, 0, 0, 0);
      case 'k' -> x.kern(0);
      case 'p' -> x.penalty(10000);
      case 'i' -> x.insert(0, 1, true);
      default -> x.mark(1);
    }
  }

  /** Each of the three, and a penalty that would force a break, on a page with nothing, a mark or an insert. */
  private static void whatGoesAtTheTop() {
    Due.of(10, GO);
    for (int before = 0; before < 3; before++) {
      for (int kind = 0; kind < 5; kind++) {
        PageBuilder x = new PageBuilder();
        x.cls(1000, 0, 0, 0);
        if (before == 1) {
          x.mark(1);
        } else if (before == 2) {
          x.insert(0, 1, true);
        }
        switch (kind) {
          case 0 -> x.glue(9, 8, 0, 7);
          case 1 -> x.kern(9);
          case 2 -> x.penalty(0);
          case 3 -> x.penalty(10000);
          default -> x.penalty(-10000);
        }
        String name = "kind " + kind + " behind " + before;
        Due.equal(name + ": run()", x.run(), 0);
        int on = before == 0 ? 0 : 1;
        Due.now(name, x, on, 0, 1000, 0, 0, 0, 0, 0, 0, Due.NO_COST, 0, 0, -1, 0);
        Due.equal(name + ": check()", x.check(), 1);
        x.box(5, 0);
        x.run();
        Due.now(name + ", and a box", x, on + 1, 5, 1000, 0, 0, 0, 0, 0, 0, Due.NO_COST, 0, 0, -1, 0);
      }
    }
  }

  private static void whatGoesIsOnNoPage() {
    Due.of(10, "they are on no page");
    PageBuilder x = new PageBuilder();
    x.glue(1, 1, 1, 1);
    x.mark(6);
    x.kern(1);
    x.penalty(-10000);
    x.box(5, 0);
    x.penalty(-10000);
    Due.equal("run()", x.run(), 1);
    Due.items("mark and box", x, 0, 1, 4);
    Due.of(18, "or went");
    Due.equal("check()", x.check(), 1);
  }

  private static void aBoxEndsTheTop() {
    Due.of(10, "as long as no box is on it: one of no height is a box");
    PageBuilder x = new PageBuilder();
    x.glue(1, 2, 3, 4);
    x.box(0, 0);
    x.glue(1, 2, 3, 4);
    x.kern(5);
    x.penalty(10000);
    x.run();
    Due.now("behind a box", x, 4, 6, 1000, 0, 0, 0, 0, 2, 4, Due.BAD);
  }

  private static void theTopOfTheNextPage() {
    Due.of(10, "Glue, kern and penalty go as long as no box is on it: on the next page, too");
    PageBuilder x = begun();
    x.penalty(-10000);
    x.penalty(-10000);
    x.kern(5);
    x.glue(5, 5, 0, 5);
    x.penalty(-10000);
    x.mark(3);
    x.penalty(-10000);
    x.box(7, 0);
    Due.equal("run()", x.run(), 1);
    Due.now("mark and box", x, 2, 7, 100, 0, 0, 0, 0, 0, 0, Due.NO_COST, 0, 0, -1, 0);
    Due.equal("check()", x.check(), 1);
  }

  private static void lastKernAtTheTop() {
    Due.of(10, "a kern that is the last in the line goes, too");
    PageBuilder x = new PageBuilder();
    x.kern(5);
    Due.equal("run()", x.run(), 0);
    Due.now("empty page", x, 0, 0, 1000, 0, 0, 0, 0, 0, 0, Due.NO_COST, 0, 0, -1, 0);
    x.glue(5, 5, 0, 5);
    x.run();
    Due.now("the glue behind it goes, too", x, 0, 0, 1000, 0, 0, 0, 0, 0, 0, Due.NO_COST, 0, 0, -1, 0);
  }

  private static void lastKernBehindABox() {
    Due.of(10, WAITS);
    PageBuilder x = begun();
    x.kern(5);
    for (int run = 0; run < 3; run++) {
      Due.equal("run()", x.run(), 0);
      Due.now("it waits", x, 1, 10, 100, 0, 0, 0, 0, 0, 0, Due.NO_COST, 0, 1, 1, 0);
      Due.equal("check()", x.check(), 1);
    }
    x.kern(6);
    Due.equal("run() with two", x.run(), 0);
    Due.now("only the last one waits", x, 2, 15, 100, 0, 0, 0, 0, 0, 0, Due.NO_COST, 0, 1, 2, 0);
    x.glue(1, 0, 0, 0);
    x.run();
    Due.now("none waits", x, 4, 22, 100, 0, 0, 0, 0, 0, 0, Due.BAD, 0, 0, -1, 0);
    x = begun();
    x.penalty(10000);
    x.glue(0, 1, 1, 0);
    x.penalty(4);
    x.kern(200);
    x.run();
    Due.now("COST stays as it is", x, 4, 10, 100, 0, 0, 1, 0, 0, 0, 4, 0, 1, 4, 0);
  }

  private static void kernBeforeEachKind() {
    for (char kind : "gbkpim".toCharArray()) {
      Due.of(10, "A PLACE TO BREAK is before a kern behind which glue stands in the line: kern before " + kind);
      PageBuilder x = begun();
      x.kern(0);
      tell(x, kind);
      x.mark(2);
      x.run();
      Due.equal("now(0)", x.now(0), 4);
      Due.equal("COST", x.now(9), kind == 'g' ? Due.BAD : Due.NO_COST);
    }
    Due.of(10, "a kern behind which glue stands: right behind it, not further on in the line");
    PageBuilder x = begun();
    x.kern(0);
    x.penalty(10000);
    x.glue(0, 0, 0, 0);
    x.run();
    Due.equal("penalty between", x.now(9), Due.NO_COST);
    x = begun();
    x.box(90, 0);
    x.kern(-50);
    x.kern(50);
    x.glue(0, 0, 0, 0);
    x.run();
    Due.now("a kern between: no place is where the page is full", x, 5, 100, 100, 0, 0, 0, 0, 0, 0, Due.BAD);
  }

  private static void glueBehindEachKind() {
    for (char kind : "bimgkp".toCharArray()) {
      Due.of(10, "A PLACE TO BREAK is before glue right behind a box, insert or mark on the page: behind " + kind);
      PageBuilder x = begun();
      x.penalty(10000);
      if (kind == 'k') {
        x.kern(0);
        x.penalty(10000);
        x.glue(0, 0, 0, 0);
      } else {
        tell(x, kind);
        x.glue(0, 0, 0, 0);
      }
      x.run();
      Due.equal("COST", x.now(9), "bim".indexOf(kind) >= 0 ? Due.BAD : Due.NO_COST);
    }
  }

  /** At a place of glue or kern neither's length is a price; the page is full there, so that its badness is 0. */
  private static void priceOfGlueAndKern() {
    for (int length : new int[] {-1000000, -10000, -37, 0, 37, 9999}) {
      for (int kerns = 0; kerns < 2; kerns++) {
        String name = (kerns == 1 ? "kern " : "glue ") + length;
        PageBuilder x = begun();
        x.box(90, 0);
        if (kerns == 1) {
          x.kern(length);
        }
        x.glue(kerns == 1 ? 5 : length, 8, 0, 3);
        Due.of(10, "its PRICE is 0");
        Due.equal(name + ": run()", x.run(), 0);
        Due.equal(name + ": COST", x.now(9), 0);
        x.box(1000000, 0);
        x.box(1000000, 0);
        x.penalty(0);
        Due.equal(name + ": run()", x.run(), 2);
        Due.items(name, x, 0, 0, 1);
        Due.of(13, "the price there: of glue and kern 0");
        Due.told(name, x, 0, 2, 100, 100, 0, 0, 0, 0, 0, 0, 0, 0);
      }
    }
  }

  private static void penaltiesThatArePlaces() {
    Due.of(10, "A PLACE TO BREAK is before a penalty below 10000; its PRICE is the penalty");
    for (int p : new int[] {-9999, -1, 0, 1, 9998, 9999, 10000}) {
      PageBuilder x = begun();
      x.box(90, 0);
      x.penalty(p);
      Due.equal("run()", x.run(), 0);
      Due.equal("COST at " + p, x.now(9), p == 10000 ? Due.NO_COST : p);
      Due.equal("it is on the page", x.now(0), 3);
    }
    PageBuilder x = begun();
    x.penalty(10000);
    x.penalty(10000);
    x.penalty(3);
    x.run();
    Due.equal("a penalty behind penalties", x.now(9), Due.BAD);
  }

  private static void otherKindsAreNoPlaces() {
    Due.of(10, "boxes, inserts and marks are no places to break");
    PageBuilder x = begun();
    for (char kind : "bimmiibb".toCharArray()) {
      tell(x, kind);
    }
    x.box(500, 0);
    x.mark(4);
    Due.equal("run()", x.run(), 0);
    Due.now("too full, but no place is there", x, 11, 510, 100, 0, 0, 0, 0, 0, 0, Due.NO_COST, 0, 0, -1, 0);
  }

  /** The kern is taken only when it is known what stands behind it. */
  private static void glueThatIsToldLater() {
    Due.of(10, "a kern behind which glue stands in the line: told behind a run");
    PageBuilder x = begun();
    x.box(90, 0);
    x.kern(3);
    x.run();
    Due.equal("COST before", x.now(9), Due.NO_COST);
    x.glue(0, 0, 0, 0);
    x.run();
    Due.equal("COST behind", x.now(9), 0);
    Due.of(10, "glue right behind a box on the page: told behind a run");
    x = begun();
    x.box(90, 0);
    x.run();
    x.glue(0, 0, 0, 0);
    x.run();
    Due.equal("COST behind", x.now(9), 0);
  }

  private static void breakBeforeAKern() {
    Due.of(10, "glue behind a kern is no place: the break is before the kern");
    PageBuilder x = begun();
    x.kern(0);
    x.glue(0, 1, 1, 0);
    x.box(200, 0);
    x.penalty(0);
    Due.equal("run()", x.run(), 2);
    Due.items("the break is before the kern", x, 0, 0);
    Due.items("kern and glue went", x, 1, 3);
  }
}
