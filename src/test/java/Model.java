import java.util.ArrayList;
import java.util.List;

/**
 * The document's words said a second time, as plainly as can be: nothing is kept of the page that is made
 * but its items, and all lengths and costs are summed up from its first item whenever they are needed.
 */
final class Model {
  static final long AWFUL = 1073741823L;

  record Class(int room, int factor, int skip, int penalty) {
  }

  /** An item with what is left of its height; a, b, c, d are the arguments in their order. */
  record Item(int number, char kind, int a, int b, int c, int d, boolean cuts, int left) {
    Item less(int part) {
      return new Item(number, kind, a, b, c, d, cuts, left - part);
    }
  }

  record Setting(int goal, int depth, int top) {
  }

  record Ended(List<Item> items, List<Integer> parts, Sums sums, long cost, int price, int[] marks) {
  }

  /** The lengths behind some first items of a page. */
  static final class Sums {
    long total;
    long goal;
    long depth;
    long shrink;
    long inserted;
    boolean box;
    final long[] stretch = new long[4];
    final long[] stands = new long[4];
    final boolean[] seen = new boolean[4];
    final boolean[] shut = new boolean[4];
    final List<Integer> parts = new ArrayList<>();

    long lengths(int what) {
      long[] row = {-1, total, goal, depth, stretch[0], stretch[1], stretch[2], stretch[3], shrink};
      return what >= 1 && what <= 8 ? row[what] : -1;
    }
  }

  final List<Class> classes = new ArrayList<>();
  final List<Ended> ended = new ArrayList<>();
  List<Item> line = new ArrayList<>();
  List<Item> page = new ArrayList<>();
  int items = 0;
  Setting told = new Setting(1000, 0, 0);
  Setting mine = told;

  int set(int goal, int depth, int top) {
    if (outside(goal, 0, 10000000) || outside(depth, 0, 10000000) || outside(top, 0, 10000000)) {
      return -2;
    }
    told = new Setting(goal, depth, top);
    if (page.isEmpty()) {
      mine = told;
    }
    return 1;
  }

  int cls(int room, int factor, int skip, int penalty) {
    if (outside(room, 0, 10000000) || outside(factor, 0, 2000)
        || outside(skip, 0, 10000) || outside(penalty, 0, 10000)) {
      return -2;
    }
    if (classes.size() == 4) {
      return -4;
    }
    classes.add(new Class(room, factor, skip, penalty));
    return classes.size() - 1;
  }

  int item(char kind, int a, int b, int c, int d, boolean cuts) {
    int m = 1000000;
    if (kind == 'i' && outside(a, 0, classes.size() - 1)) {
      return -1;
    }
    boolean wrong = switch (kind) {
      case 'b' -> outside(a, 0, m) || outside(b, 0, m);
      case 'g' -> outside(a, -m, m) || outside(b, 0, m) || outside(c, 0, 3) || outside(d, 0, m);
      case 'k' -> outside(a, -m, m);
      case 'p' -> outside(a, -10000, 10000);
      case 'i' -> outside(b, 1, m);
      default -> false;
    };
    if (wrong) {
      return -2;
    }
    if (items == 400) {
      return -4;
    }
    line.add(new Item(items, kind, a, b, c, d, cuts, kind == 'i' ? b : 0));
    return items++;
  }

  private static boolean outside(int v, int least, int most) {
    return v < least || v > most;
  }

  int run() {
    int before = ended.size();
    while (ended.size() < 60 && !line.isEmpty() && step()) {
      continue;
    }
    return ended.size() - before;
  }

  private boolean step() {
    Item item = line.get(0);
    boolean soft = "gkp".indexOf(item.kind) >= 0;
    if (soft && page.stream().noneMatch(i -> i.kind == 'b')) {
      line.remove(0);
      return true;
    }
    if (item.kind == 'k' && line.size() == 1) {
      return false;
    }
    List<Item> all = new ArrayList<>(page);
    all.addAll(line);
    int here = page.size();
    if (isPlace(all, here)) {
      long c = cost(all, here);
      if (c == AWFUL || price(all, here) == -10000) {
        end(all, best(all, here));
        return true;
      }
    }
    page.add(line.remove(0));
    return true;
  }

  private static boolean isPlace(List<Item> all, int i) {
    if (all.subList(0, i).stream().noneMatch(p -> p.kind == 'b')) {
      return false;
    }
    switch (all.get(i).kind) {
      case 'g': return "bim".indexOf(all.get(i - 1).kind) >= 0;
      case 'k': return i + 1 < all.size() && all.get(i + 1).kind == 'g';
      case 'p': return all.get(i).a < 10000;
      default: return false;
    }
  }

  private static int price(List<Item> all, int i) {
    return all.get(i).kind == 'p' ? all.get(i).a : 0;
  }

  private long cost(List<Item> all, int i) {
    Sums s = sums(all.subList(0, i));
    long b;
    if (s.total - s.goal > s.shrink) {
      b = AWFUL;
    } else if (s.total >= s.goal) {
      b = badness(s.total - s.goal, s.shrink);
    } else if (s.stretch[1] + s.stretch[2] + s.stretch[3] != 0) {
      b = 0;
    } else {
      b = badness(s.goal - s.total, s.stretch[0]);
    }
    if (b == AWFUL || s.inserted >= 10000) {
      return AWFUL;
    }
    if (price(all, i) == -10000) {
      return -10000;
    }
    return b < 10000 ? b + price(all, i) + s.inserted : 100000;
  }

  /** The last of the cheapest places up to here, or NONE. */
  private int best(List<Item> all, int here) {
    int at = -1;
    long least = 0;
    for (int i = 0; i <= here; i++) {
      if (i < all.size() && isPlace(all, i)) {
        long c = cost(all, i);
        if (at < 0 || c <= least) {
          at = i;
          least = c;
        }
      }
    }
    return at;
  }

  private void end(List<Item> all, int at) {
    List<Item> stays = new ArrayList<>(all.subList(0, at));
    Sums s = sums(stays);
    int top = ended.isEmpty() ? 0 : ended.get(ended.size() - 1).marks[2];
    int[] marks = stays.stream().filter(i -> i.kind == 'm').mapToInt(Item::a).toArray();
    int[] three = {top, top, top};
    if (marks.length > 0) {
      three[1] = marks[0];
      three[2] = marks[marks.length - 1];
    }
    ended.add(new Ended(stays, s.parts, s, cost(all, at), price(all, at), three));
    line = new ArrayList<>();
    for (int i = 0; i < at; i++) {
      Item rest = stays.get(i).less(s.parts.get(i));
      if (rest.left > 0) {
        line.add(rest);
      }
    }
    line.addAll(all.subList(all.get(at).kind == 'p' ? at + 1 : at, all.size()));
    page = new ArrayList<>();
    mine = told;
  }

  Sums sums(List<Item> some) {
    Sums s = new Sums();
    s.goal = mine.goal;
    for (Item i : some) {
      s.parts.add(i.kind == 'i' ? insert(s, i) : 0);
      if (i.kind == 'b') {
        s.total += s.box ? 0 : Math.max(0, mine.top - i.a);
        s.box = true;
      }
      if (i.kind == 'b' || i.kind == 'g' || i.kind == 'k') {
        s.total += s.depth + i.a;
        s.depth = i.kind == 'b' ? i.b : 0;
        long more = Math.max(0, s.depth - mine.depth);
        s.total += more;
        s.depth -= more;
      }
      if (i.kind == 'g') {
        s.stretch[i.c] += i.b;
        s.shrink += i.d;
      }
    }
    return s;
  }

  private int insert(Sums s, Item i) {
    Class c = classes.get(i.a);
    s.goal -= s.seen[i.a] ? 0 : c.skip;
    s.seen[i.a] = true;
    int part = s.shut[i.a] ? 0 : part(s, i, c);
    s.stands[i.a] += part;
    s.goal -= (long) part * c.factor / 1000;
    if (part != i.left) {
      s.shut[i.a] = true;
      s.inserted += c.penalty;
    }
    return part;
  }

  private static int part(Sums s, Item i, Class c) {
    long free = s.goal - (s.total + s.depth);
    long needs = (long) i.left * c.factor / 1000;
    boolean fits = needs == 0 || needs <= free + s.shrink;
    if (fits && s.stands[i.a] + i.left <= c.room) {
      return i.left;
    }
    if (!i.cuts) {
      return 0;
    }
    long most = Math.min(i.left - 1L, c.room - s.stands[i.a]);
    if (c.factor != 0) {
      most = Math.min(most, free * 1000 / c.factor);
    }
    return (int) Math.max(0, most);
  }

  static long badness(long t, long s) {
    if (t == 0) {
      return 0;
    }
    if (s == 0) {
      return 10000;
    }
    long r = t <= 7230584 ? 297 * t / s : s >= 1663497 ? t / (s / 297) : t;
    return r > 1290 ? 10000 : (r * r * r + 131072) / 262144;
  }

  long told(int p, int what) {
    if (p < 0 || p >= ended.size()) {
      return -1;
    }
    Ended e = ended.get(p);
    if (what >= 11 && what <= 14) {
      return e.sums.stands[what - 11];
    }
    return what == 0 ? e.items.size() : what == 9 ? e.cost : what == 10 ? e.price : e.sums.lengths(what);
  }

  int at(int p, int i) {
    return has(p, i) ? ended.get(p).items.get(i).number : -1;
  }

  int part(int p, int i) {
    return has(p, i) ? ended.get(p).parts.get(i) : 0;
  }

  private boolean has(int p, int i) {
    return p >= 0 && p < ended.size() && i >= 0 && i < ended.get(p).items.size();
  }

  long now(int what) {
    Sums s = sums(page);
    Item first = line.isEmpty() ? null : line.get(0);
    switch (what) {
      case 0: return page.size();
      case 9: return costSoFar();
      case 10: return s.inserted;
      case 11: return line.size();
      case 12: return first == null ? -1 : first.number;
      case 13: return first == null ? 0 : first.left;
      default: return s.lengths(what);
    }
  }

  private long costSoFar() {
    List<Item> all = new ArrayList<>(page);
    all.addAll(line);
    int at = page.isEmpty() ? -1 : best(all, page.size() - 1);
    return at < 0 ? AWFUL : cost(all, at);
  }
}
