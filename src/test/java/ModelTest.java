import java.util.Random;

/** Runs of mixed calls, the same each time, on the class and on the model: all answers are the same. */
public final class ModelTest {
  private static final int RUNS = 6000;
  private static final int MOST_CALLS = 512;

  private final Random random;
  private final String name;
  private final PageBuilder x = new PageBuilder();
  private final Model model = new Model();
  /** How great lengths are, so that some runs have many short pages and some few with great sums. */
  private final int scale;
  private final int forced;
  private int calls = 0;

  private static final int[] SEEN = new int[6];

  private ModelTest(int run) {
    random = new Random(20261115L + run);
    name = "run " + run;
    int[] scales = {3, 12, 40, 400, 30000, 1000000};
    scale = scales[random.nextInt(scales.length)];
    forced = random.nextInt(4);
  }

  public static void main(String[] args) {
    Due.ofAll("the model answers the same");
    for (int run = 0; run < RUNS; run++) {
      new ModelTest(run).play();
    }
    Due.equal("the runs end many pages", SEEN[0] > 10000 ? 1 : 0, 1);
    Due.equal("some of them awful", SEEN[1] > 500 ? 1 : 0, 1);
    Due.equal("some forced", SEEN[2] > 500 ? 1 : 0, 1);
    Due.equal("some neither", SEEN[3] > 500 ? 1 : 0, 1);
    Due.equal("some inserts are cut", SEEN[4] > 500 ? 1 : 0, 1);
    Due.equal("some are held", SEEN[5] > 500 ? 1 : 0, 1);
    Due.end();
  }

  private void play() {
    setting();
    int classes = random.nextInt(5);
    for (int i = 0; i < classes; i++) {
      insertClass();
    }
    int wanted = 20 + random.nextInt(300);
    int between = 1 + random.nextInt(60);
    while (calls < wanted) {
      item();
      if (random.nextInt(between) == 0) {
        due("run()", x.run(), model.run());
        ask();
        ask();
      }
      if (random.nextInt(50) == 0) {
        setting();
      }
      if (random.nextInt(80) == 0) {
        insertClass();
      }
    }
    due("run()", x.run(), model.run());
    while (calls < MOST_CALLS) {
      ask();
    }
    look();
  }

  private void due(String call, long got, long want) {
    calls++;
    Due.equal(name + ", call " + calls + ": " + call, got, want);
  }

  private int length() {
    return random.nextInt(8) == 0 ? 0 : random.nextInt(scale + 1);
  }

  private int signed() {
    return random.nextInt(4) == 0 ? -length() / 2 : length();
  }

  private void setting() {
    int goal = (int) Math.min(10000000L, (long) scale * (1 + random.nextInt(12)));
    int depth = random.nextInt(3) == 0 ? 0 : length();
    int top = random.nextInt(2) == 0 ? 0 : length() * 2;
    due("set", x.set(goal, depth, top), model.set(goal, depth, top));
  }

  private void insertClass() {
    int room = random.nextInt(4) == 0 ? length() : Math.min(10000000, scale * random.nextInt(6));
    int[] factors = {0, 1, 500, 1000, 1000, 1500, 2000, random.nextInt(2001)};
    int factor = factors[random.nextInt(factors.length)];
    int skip = Math.min(10000, random.nextInt(3) == 0 ? length() : 0);
    int[] penalties = {0, 0, 100, 3000, random.nextInt(10001), 10000};
    int penalty = penalties[random.nextInt(penalties.length)];
    due("cls", x.cls(room, factor, skip, penalty), model.cls(room, factor, skip, penalty));
  }

  private void item() {
    int pick = random.nextInt(20);
    if (pick < 6) {
      int h = length();
      int d = random.nextInt(2) == 0 ? 0 : length() / 2;
      due("box", x.box(h, d), model.item('b', h, d, 0, 0, false));
    } else if (pick < 11) {
      int n = signed() / 3;
      int stretch = random.nextInt(3) == 0 ? 0 : length();
      int order = Math.max(0, random.nextInt(9) - 5);
      int shrink = random.nextInt(2) == 0 ? 0 : length();
      due("glue", x.glue(n, stretch, order, shrink), model.item('g', n, stretch, order, shrink, false));
    } else if (pick < 13) {
      int k = signed();
      due("kern", x.kern(k), model.item('k', k, 0, 0, 0, false));
    } else if (pick < 15) {
      int p = price();
      due("penalty", x.penalty(p), model.item('p', p, 0, 0, 0, false));
    } else if (pick < 18) {
      int c = random.nextInt(5);
      int h = 1 + length();
      boolean cuts = random.nextInt(3) != 0;
      due("insert", x.insert(c, h, cuts), model.item('i', c, h, 0, 0, cuts));
    } else {
      int v = random.nextInt();
      due("mark", x.mark(v), model.item('m', v, 0, 0, 0, false));
    }
  }

  private int price() {
    if (random.nextInt(6) < forced) {
      return -10000;
    }
    int[] prices = {10000, 9999, 0, -9999, 50, -50, random.nextInt(20001) - 10000};
    return prices[random.nextInt(prices.length)];
  }

  private void ask() {
    int page = random.nextInt(Math.max(1, model.ended.size() + 1));
    int i = random.nextInt(25) - 1;
    int what = random.nextInt(17) - 1;
    switch (random.nextInt(6)) {
      case 0:
        due("at(" + page + ", " + i + ")", x.at(page, i), model.at(page, i));
        break;
      case 1:
        due("part(" + page + ", " + i + ")", x.part(page, i), model.part(page, i));
        break;
      case 2:
        due("told(" + page + ", " + what + ")", x.told(page, what), model.told(page, what));
        break;
      case 3:
        due("now(" + what + ")", x.now(what), model.now(what));
        break;
      case 4:
        askMarks(page, random.nextInt(3));
        break;
      default:
        due("check()", x.check(), 1);
    }
  }

  private void askMarks(int page, int which) {
    if (page < model.ended.size()) {
      due("marked(" + page + ", " + which + ")", x.marked(page, which), model.ended.get(page).marks()[which]);
    } else {
      calls++;
      Due.noMark(name, x, page, which);
    }
  }

  private void look() {
    for (Model.Ended e : model.ended) {
      SEEN[0]++;
      SEEN[e.cost() == Model.AWFUL ? 1 : e.price() == -10000 ? 2 : 3]++;
      for (int i = 0; i < e.items().size(); i++) {
        Model.Item item = e.items().get(i);
        int part = e.parts().get(i);
        if (item.kind() == 'i' && part < item.left()) {
          SEEN[part > 0 ? 4 : 5]++;
        }
      }
    }
  }
}
