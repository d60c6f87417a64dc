import java.util.ArrayList;
import java.util.List;

/**
 * Promises 2 to 9 and 11 to 17: a refused call, and one that only asks, leaves every later answer as it would
 * have been without it. Each call is made on an object in each of several states, then all that can be asked is
 * asked, of that object and of one on which the call was not made, and once more behind further calls.
 *
 * An object answers for 512 calls alone: so the questions are asked in portions, each of a new object.
 */
public final class RefusalTest {
  private static final int MOST_CALLS = 512;
  private static final long THROWN = Long.MIN_VALUE;

  private interface Call {
    long on(PageBuilder x);
  }

  private record Named(int promise, String name, Call call, long due) {
  }

  /** With the refused calls that are refused in this state, but not in every one. */
  private record State(String name, List<Call> calls, List<Named> refused) {
  }

  private static final List<Call> NO_CALL = List.of(x -> 0);
  private static final List<Call> MORE_CALLS = List.of(
      x -> x.box(30, 4), x -> x.insert(0, 25, true), x -> x.glue(3, 2, 1, 1), x -> x.mark(9), x -> x.run(),
      x -> x.cls(50, 700, 2, 30), x -> x.box(40, 2), x -> x.insert(1, 45, true), x -> x.penalty(40),
      x -> x.kern(7), x -> x.run(), x -> x.set(90, 1, 20), x -> x.box(95, 0), x -> x.penalty(-10000), x -> x.run());

  public static void main(String[] args) {
    statesAreAsNamed();
    for (State state : states()) {
      List<Named> calls = new ArrayList<>(questions());
      calls.addAll(outside());
      calls.addAll(state.refused);
      compare(state, NO_CALL, calls);
      compare(state, MORE_CALLS, calls);
    }
    Due.end();
  }

  /** A state in which little has happened would show little. */
  private static void statesAreAsNamed() {
    Due.of(10, "the states of this test");
    int[] pages = {0, 0, 0, 1, 3, 0, 2, 60};
    int[] waiting = {0, 7, 1, 0, 0, 400, 0, 3};
    List<State> states = states();
    for (int i = 0; i < pages.length; i++) {
      PageBuilder x = new PageBuilder();
      for (Call call : states.get(i).calls) {
        call.on(x);
      }
      Due.equal(states.get(i).name + ": pages", x.count(2), pages[i]);
      Due.equal(states.get(i).name + ": in the line", x.now(11), waiting[i]);
    }
  }

  private static void compare(State state, List<Call> behind, List<Named> calls) {
    Named none = new Named(18, "no call", x -> 0, 0);
    Due.of(none.promise, none.name + ", " + state.name);
    List<Long> without = allAnswers(state, none, behind);
    for (Named call : calls) {
      Due.of(call.promise, "REFUSALS and questions change nothing: " + call.name + ", " + state.name);
      List<Long> with = allAnswers(state, call, behind);
      Due.equal("how many answers", with.size(), without.size());
      for (int i = 0; i < Math.min(with.size(), without.size()); i++) {
        Due.equal("later answer " + i, with.get(i), without.get(i));
      }
    }
  }

  private static List<Long> allAnswers(State state, Named call, List<Call> behind) {
    List<Long> answers = new ArrayList<>();
    List<Call> toAsk = toAsk(begun(state, call, behind, new ArrayList<>()));
    int from = 0;
    while (from < toAsk.size()) {
      PageBuilder x = begun(state, call, behind, answers);
      int left = MOST_CALLS - state.calls.size() - 1 - behind.size();
      int to = Math.min(toAsk.size(), from + left);
      for (int i = from; i < to; i++) {
        answers.add(toAsk.get(i).on(x));
      }
      from = to;
    }
    return answers;
  }

  private static PageBuilder begun(State state, Named call, List<Call> behind, List<Long> answers) {
    PageBuilder x = new PageBuilder();
    for (Call one : state.calls) {
      answers.add(one.on(x));
    }
    Due.equal("its own answer", call.call.on(x), call.due);
    for (Call one : behind) {
      answers.add(one.on(x));
    }
    return x;
  }

  /** Everything that can be asked; the object that is looked at tells how many pages and items there are. */
  private static List<Call> toAsk(PageBuilder seen) {
    List<Call> all = new ArrayList<>();
    all.add(x -> x.check());
    for (int w = -1; w <= 14; w++) {
      int what = w;
      all.add(x -> x.now(what));
      all.add(x -> x.count(what));
    }
    for (int p = -1; p <= seen.count(2); p++) {
      int page = p;
      for (int w = -1; w <= 15; w++) {
        int what = w;
        all.add(x -> x.told(page, what));
      }
      for (int w = 0; w <= 2; w++) {
        int which = w;
        all.add(x -> markedOr(x, page, which));
      }
      for (int i = 0; i <= seen.told(page, 0); i++) {
        int item = i;
        all.add(x -> x.at(page, item));
        all.add(x -> x.part(page, item));
      }
    }
    return all;
  }

  private static long markedOr(PageBuilder x, int page, int which) {
    try {
      return x.marked(page, which);
    } catch (ArrayIndexOutOfBoundsException e) {
      return THROWN;
    }
  }

  private static List<State> states() {
    Named height = new Named(8, "insert, height", x -> x.insert(0, 0, true), -2);
    Named fifth = new Named(3, "cls, a fifth", x -> x.cls(1, 1, 1, 1), -4);
    Named run = new Named(10, "run, when nothing more goes", x -> x.run(), 0);
    List<Named> noRoom = noRoom();
    List<Named> noRoomTaken = new ArrayList<>(noRoom);
    noRoomTaken.add(run);
    return List.of(
        new State("nothing was called", List.of(), List.of(run)),
        new State("items wait in the line", line(false), List.of(height)),
        new State("a page is begun, a kern waits", line(true), List.of(height, run)),
        new State("a page is empty, another was", emptyPage(), List.of(height, run)),
        new State("pages ended, inserts held, four classes", held(), List.of(height, fifth, run)),
        new State("full of items, in the line", full(false), noRoom),
        new State("full of items, taken", full(true), noRoomTaken),
        new State("sixty pages ended", sixty(), List.of(height, run)));
  }

  private static List<Call> line(boolean taken) {
    List<Call> calls = new ArrayList<>(List.of(
        x -> x.set(100, 3, 25), x -> x.cls(40, 1000, 4, 60), x -> x.mark(-3), x -> x.box(20, 5),
        x -> x.insert(0, 50, true), x -> x.glue(5, 9, 0, 3), x -> x.penalty(70), x -> x.box(9, 0), x -> x.kern(6)));
    if (taken) {
      calls.add(x -> x.run());
    }
    return calls;
  }

  private static List<Call> emptyPage() {
    return List.of(x -> x.set(60, 2, 12), x -> x.cls(9, 1000, 0, 5), x -> x.box(8, 3), x -> x.mark(6),
        x -> x.penalty(-10000), x -> x.glue(1, 1, 1, 1), x -> x.run());
  }

  private static List<Call> held() {
    List<Call> calls = new ArrayList<>();
    calls.add(x -> x.set(80, 2, 15));
    for (int i = 0; i < 4; i++) {
      int number = i;
      calls.add(x -> x.cls(10 + number, 500 * number, number, 100 * number));
    }
    for (int i = 0; i < 8; i++) {
      int height = 5 + 4 * i;
      int cls = i % 4;
      calls.add(x -> x.box(height, 3));
      calls.add(x -> x.insert(cls, height, height % 8 == 5));
      calls.add(x -> x.mark(height));
      calls.add(x -> x.glue(2, 4, 0, 1));
    }
    calls.add(x -> x.run());
    return calls;
  }

  private static List<Call> full(boolean taken) {
    List<Call> calls = new ArrayList<>();
    calls.add(x -> x.cls(30, 1000, 0, 10));
    for (int i = 0; i < 400; i++) {
      int v = i;
      calls.add(i % 5 == 3 ? x -> x.insert(0, 1 + v % 7, true) : i % 5 == 4 ? x -> x.glue(1, 1, 0, 1)
          : i % 5 == 2 ? x -> x.mark(v) : x -> x.box(13, 1));
    }
    if (taken) {
      calls.add(x -> x.run());
    }
    return calls;
  }

  private static List<Call> sixty() {
    List<Call> calls = new ArrayList<>();
    calls.add(x -> x.cls(1, 1000, 0, 0));
    calls.add(x -> x.insert(0, 99, true));
    for (int i = 0; i < 61; i++) {
      calls.add(x -> x.box(10, 2));
      calls.add(x -> x.penalty(-10000));
    }
    calls.add(x -> x.run());
    return calls;
  }

  private static List<Named> noRoom() {
    return List.of(
        new Named(4, "box, no room", x -> x.box(1, 1), -4),
        new Named(5, "glue, no room", x -> x.glue(1, 1, 1, 1), -4),
        new Named(6, "kern, no room", x -> x.kern(1), -4),
        new Named(7, "penalty, no room", x -> x.penalty(-10000), -4),
        new Named(8, "insert, no room", x -> x.insert(0, 1, true), -4),
        new Named(9, "mark, no room", x -> x.mark(1), -4));
  }

  private static List<Named> outside() {
    int most = 1000000;
    return List.of(
        new Named(2, "set, goal", x -> x.set(-1, 7, 7), -2),
        new Named(2, "set, depth", x -> x.set(7, 10000001, 7), -2),
        new Named(2, "set, top", x -> x.set(7, 7, -1), -2),
        new Named(3, "cls, room", x -> x.cls(-1, 1, 1, 1), -2),
        new Named(3, "cls, factor", x -> x.cls(1, 2001, 1, 1), -2),
        new Named(3, "cls, skip", x -> x.cls(1, 1, -1, 1), -2),
        new Named(3, "cls, penalty", x -> x.cls(1, 1, 1, 10001), -2),
        new Named(4, "box, height", x -> x.box(-1, 0), -2),
        new Named(4, "box, depth", x -> x.box(0, most + 1), -2),
        new Named(5, "glue, natural", x -> x.glue(-most - 1, 1, 1, 1), -2),
        new Named(5, "glue, stretch", x -> x.glue(1, -1, 1, 1), -2),
        new Named(5, "glue, order", x -> x.glue(1, 1, 4, 1), -2),
        new Named(5, "glue, shrink", x -> x.glue(1, 1, 1, most + 1), -2),
        new Named(6, "kern", x -> x.kern(most + 1), -2),
        new Named(7, "penalty", x -> x.penalty(-10001), -2),
        new Named(8, "insert, class", x -> x.insert(4, 1, true), -1),
        new Named(8, "insert, class below", x -> x.insert(-1, 1, true), -1));
  }

  /** Those whose answer is the same in every state. */
  private static List<Named> questions() {
    return List.of(
        new Named(11, "at, page", x -> x.at(-1, 0), -1),
        new Named(11, "at, item", x -> x.at(0, 401), -1),
        new Named(12, "part, page", x -> x.part(60, 0), 0),
        new Named(12, "part, item", x -> x.part(0, -1), 0),
        new Named(13, "told, page", x -> x.told(60, 1), -1),
        new Named(13, "told, what", x -> x.told(0, 15), -1),
        new Named(14, "marked, page", x -> markedOr(x, 60, 0), THROWN),
        new Named(14, "marked, which", x -> markedOr(x, 0, 3), THROWN),
        new Named(15, "now", x -> x.now(14), -1),
        new Named(16, "badness, t", x -> x.badness(-1, 5), -1),
        new Named(16, "badness, s", x -> x.badness(5, -1), -1),
        new Named(17, "count", x -> x.count(3), -1),
        new Named(18, "check", x -> x.check(), 1),
        new Named(18, "check twice", x -> x.check() + x.check(), 2));
  }
}
