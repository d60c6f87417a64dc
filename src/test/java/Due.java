/** What the tests share: each answer against the one that is due, and the exit code of all of them. */
final class Due {
  private static int wrong = 0;
  private static int asked = 0;

  private Due() {
  }

  static void equal(String call, long got, long want) {
    asked++;
    if (got != want) {
      wrong++;
      System.out.println(call + " answered " + got + ", due is " + want);
    }
  }

  /** now(0), now(1) .. against the row; shorter rows leave the rest unasked. */
  static void now(String name, PageBuilder x, long... row) {
    for (int what = 0; what < row.length; what++) {
      equal(name + ": now(" + what + ")", x.now(what), row[what]);
    }
  }

  static void told(String name, PageBuilder x, int page, long... row) {
    for (int what = 0; what < row.length; what++) {
      equal(name + ": told(" + page + ", " + what + ")", x.told(page, what), row[what]);
    }
  }

  /** All items of a page, and that there are no more. */
  static void items(String name, PageBuilder x, int page, int... numbers) {
    equal(name + ": told(" + page + ", 0)", x.told(page, 0), numbers.length);
    for (int i = 0; i < numbers.length; i++) {
      equal(name + ": at(" + page + ", " + i + ")", x.at(page, i), numbers[i]);
    }
    equal(name + ": at behind the last of " + page, x.at(page, numbers.length), PageBuilder.NONE);
  }

  static void parts(String name, PageBuilder x, int page, int... parts) {
    for (int i = 0; i < parts.length; i++) {
      equal(name + ": part(" + page + ", " + i + ")", x.part(page, i), parts[i]);
    }
  }

  static void marks(String name, PageBuilder x, int page, int top, int first, int bottom) {
    equal(name + ": marked(" + page + ", 0)", x.marked(page, 0), top);
    equal(name + ": marked(" + page + ", 1)", x.marked(page, 1), first);
    equal(name + ": marked(" + page + ", 2)", x.marked(page, 2), bottom);
  }

  static void noMark(String name, PageBuilder x, int page, int which) {
    boolean thrown = false;
    try {
      x.marked(page, which);
    } catch (ArrayIndexOutOfBoundsException e) {
      thrown = true;
    }
    equal(name + ": marked(" + page + ", " + which + ") throws", thrown ? 1 : 0, 1);
  }

  static void end() {
    System.out.println(asked + " answers, " + wrong + " not as due");
    if (wrong != 0 || asked == 0) {
      System.exit(1);
    }
  }
}
