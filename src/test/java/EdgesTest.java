import java.util.Random;

/** Calls with arguments at and far outside all edges, against the model: no call throws but marked. */
public final class EdgesTest {
  private static final int[] EDGES = {
    Integer.MIN_VALUE, Integer.MIN_VALUE + 1, -10000001, -1000001, -1000000, -10001, -10000, -9999, -2, -1,
    0, 1, 2, 3, 4, 5, 8, 9, 13, 14, 15, 59, 60, 399, 400, 1000, 2000, 2001, 9999, 10000, 10001,
    999999, 1000000, 1000001, 9999999, 10000000, 10000001, Integer.MAX_VALUE - 1, Integer.MAX_VALUE,
  };

  private final Random random;
  private final PageBuilder x = new PageBuilder();
  private final Model model = new Model();
  private final String name;

  private EdgesTest(int run) {
    random = new Random(77L * run + 5);
    name = "edges " + run;
  }

  public static void main(String[] args) {
    Due.ofAll("the model answers the same");
    for (int run = 0; run < 2000; run++) {
      EdgesTest test = new EdgesTest(run);
      for (int call = 0; call < 512; call++) {
        test.call();
      }
    }
    Due.end();
  }

  private int any() {
    return EDGES[random.nextInt(EDGES.length)];
  }

  /** Often in the range, so that items come to stand in the line. */
  private int any(int least, int most) {
    int v = any();
    return random.nextInt(20) == 0 ? v : Math.min(most, Math.max(least, v));
  }

  private void due(String call, long got, long want) {
    Due.equal(name + ": " + call, got, want);
  }

  private void call() {
    if (random.nextInt(2) == 0) {
      tell();
    } else {
      ask();
    }
  }

  private void tell() {
    int m = 1000000;
    int a = any(-m, m);
    int b = any(0, m);
    int c = any(0, 3);
    int d = any(0, m);
    switch (random.nextInt(9)) {
      case 0:
        due("set", x.set(b, d, c), model.set(b, d, c));
        break;
      case 1:
        int factor = any(0, 2000);
        int penalty = any(0, 10000);
        due("cls", x.cls(b, factor, c, penalty), model.cls(b, factor, c, penalty));
        break;
      case 2:
        due("glue", x.glue(a, b, c, d), model.item('g', a, b, c, d, false));
        break;
      case 3:
        due("kern", x.kern(a), model.item('k', a, 0, 0, 0, false));
        break;
      case 4:
        int p = any(-10000, 10000);
        due("penalty", x.penalty(p), model.item('p', p, 0, 0, 0, false));
        break;
      case 5:
        due("insert", x.insert(c, b, a > 0), model.item('i', c, b, 0, 0, a > 0));
        break;
      case 6:
        due("mark", x.mark(a), model.item('m', a, 0, 0, 0, false));
        break;
      default:
        due("box", x.box(b, d), model.item('b', b, d, 0, 0, false));
    }
  }

  private void ask() {
    int a = any();
    int b = any();
    switch (random.nextInt(9)) {
      case 0:
        due("at", x.at(a, b), model.at(a, b));
        break;
      case 1:
        due("part", x.part(a, b), model.part(a, b));
        break;
      case 2:
        due("told", x.told(a, b), model.told(a, b));
        break;
      case 3:
        due("now", x.now(a), model.now(a));
        break;
      case 4:
        boolean known = a >= 0 && a < model.ended.size() && b >= 0 && b <= 2;
        if (known) {
          due("marked", x.marked(a, b), model.ended.get(a).marks()[b]);
        } else {
          Due.noMark(name, x, a, b);
        }
        break;
      case 5:
        due("badness", x.badness(a, b), a < 0 || b < 0 ? -1 : Model.badness(a, b));
        break;
      case 6:
        int[] counts = {model.items, model.classes.size(), model.ended.size()};
        due("count", x.count(a), a >= 0 && a < 3 ? counts[a] : -1);
        break;
      case 7:
        due("check", x.check(), 1);
        break;
      default:
        due("run", x.run(), model.run());
    }
  }
}
