/** What the tests share: each answer against the one that is due, and the exit code of all of them. */
final class Due {
  static final long AWFUL = 1073741823L;
  /** Of now(9): the same number stands for a page that has no COST yet. */
  static final long NO_COST = 1073741823L;
  static final long BAD = 100000L;
  /** Of a class that answers wrongly all along, more lines would show no more. */
  private static final int MOST_REPORTS = 200;

  private static int wrong = 0;
  private static int asked = 0;
  private static String promise = "";

  private Due() {
  }

  /** The promise that the answers from here on show, and the words of the document that they hold to. */
  static void of(int number, String sentence) {
    promise = "promise " + number + " (" + sentence + "): ";
  }

  static void ofAll(String sentence) {
    promise = "promises 1 to 18 (" + sentence + "): ";
  }

  static void equal(String call, long got, long want) {
    asked++;
    if (got != want) {
      report(call + " answered " + got + ", due is " + want);
    }
    if (promise.isEmpty()) {
      report(call + " names no promise");
    }
  }

  static void isTrue(String what, boolean is) {
    equal(what, is ? 1 : 0, 1);
  }

  private static void report(String text) {
    wrong++;
    if (wrong <= MOST_REPORTS) {
      System.out.println(promise + text);
    }
  }

  /** now(0), now(1) .. against the row; shorter rows leave the rest unasked. */
  static void now(String name, PageBuilder x, long... row) {
    for (int what = 0; what < row.length; what++) {
      equal(name + ": now(" + what + ")", x.now(what), row[what]);
    }
  }

  static void told(String name, PageBuilder x, int page, long... row) {
    for (int what = 0; what < row.length; what++) {
      equal(name + ": told(" + page + ", " + what + ")", x.told(page, what), row[what]);
    }
  }

  /** All items of a page, and that there are no more. */
  static void items(String name, PageBuilder x, int page, int... numbers) {
    equal(name + ": told(" + page + ", 0)", x.told(page, 0), numbers.length);
    for (int i = 0; i < numbers.length; i++) {
      equal(name + ": at(" + page + ", " + i + ")", x.at(page, i), numbers[i]);
    }
    equal(name + ": at behind the last of " + page, x.at(page, numbers.length), PageBuilder.NONE);
  }

  static void parts(String name, PageBuilder x, int page, int... parts) {
    for (int i = 0; i < parts.length; i++) {
      equal(name + ": part(" + page + ", " + i + ")", x.part(page, i), parts[i]);
    }
  }

  static void marks(String name, PageBuilder x, int page, int top, int first, int bottom) {
    equal(name + ": marked(" + page + ", 0)", x.marked(page, 0), top);
    equal(name + ": marked(" + page + ", 1)", x.marked(page, 1), first);
    equal(name + ": marked(" + page + ", 2)", x.marked(page, 2), bottom);
  }

  /** The very exception of the document: neither a class above it nor one below. */
  static void noMark(String name, PageBuilder x, int page, int which) {
    boolean thrown = false;
    try {
      x.marked(page, which);
    } catch (RuntimeException e) {
      thrown = e.getClass() == ArrayIndexOutOfBoundsException.class;
    }
    isTrue(name + ": marked(" + page + ", " + which + ") throws", thrown);
  }

  static void end() {
    System.out.println(asked + " answers, " + wrong + " not as due");
    if (wrong != 0 || asked == 0) {
      System.exit(1);
    }
  }
}
