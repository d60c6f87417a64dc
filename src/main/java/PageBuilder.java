/**
 * Cuts pages from a line of boxes, glue, kerns, penalties, inserts and marks.
 *
 * Items are told one by one and wait in the line; run() moves them to the page that is made, and ends
 * that page at the cheapest place once going on can only be worse.
 */
public final class PageBuilder {
    public static final int NONE = -1;

    private static final int UNKNOWN = -1;
    private static final int OUTSIDE = -2;
    private static final int NO_ROOM = -4;

    private static final int MOST_ITEMS = 400;
    private static final int MOST_CLASSES = 4;
    private static final int MOST_PAGES = 60;
    private static final int ORDERS = 4;
    private static final int MOST_LENGTH = 1000000;
    private static final int MOST_SETTING = 10000000;
    private static final int MOST_FACTOR = 2000;
    private static final int MOST_SKIP = 10000;
    private static final int FIRST_GOAL = 1000;

    /** A price that forces a break; its opposite forbids one. */
    private static final int FORCED = -10000;
    private static final int FORBIDDEN = 10000;
    /** The greatest badness, and the sum of insert penalties that makes every break awful. */
    private static final int WORST = 10000;
    /** What a break costs that is bad, but not awful. */
    private static final int DEPLORABLE = 100000;
    /** More than every other cost; it stands for 'no cost yet', too, as every cost is no more than it. */
    private static final int AWFUL = 1073741823;

    /** Each of 61 pages takes at most all items and ends once: 61 times 401 steps. This is far above. */
    private static final int MOST_STEPS = 100000;

    private final Item[] items = new Item[MOST_ITEMS];
    private int itemCount;
    private final InsertClass[] classes = new InsertClass[MOST_CLASSES];
    private int classCount;
    private final Page[] pages = new Page[MOST_PAGES];
    private int pageCount;
    private final Line line = new Line();
    private final Draft draft = new Draft();
    private int goal = FIRST_GOAL;
    private int greatestDepth;
    private int top;

    public PageBuilder() {
        draft.begin(goal, greatestDepth, top);
    }

    public int set(int goal, int depth, int top) {
        if (!within(goal, 0, MOST_SETTING) || !within(depth, 0, MOST_SETTING) || !within(top, 0, MOST_SETTING)) {
            return OUTSIDE;
        }
        this.goal = goal;
        this.greatestDepth = depth;
        this.top = top;
        if (draft.size == 0) {
            draft.begin(goal, depth, top);
        }
        return 1;
    }

    public int cls(int room, int factor, int skip, int penalty) {
        if (!within(room, 0, MOST_SETTING) || !within(factor, 0, MOST_FACTOR)
                || !within(skip, 0, MOST_SKIP) || !within(penalty, 0, WORST)) {
            return OUTSIDE;
        }
        if (classCount >= MOST_CLASSES) {
            return NO_ROOM;
        }
        int number = classCount;
        classes[number] = new InsertClass(number, room, factor, skip, penalty);
        classCount++;
        return number;
    }

    public int box(int height, int depth) {
        if (!within(height, 0, MOST_LENGTH) || !within(depth, 0, MOST_LENGTH)) {
            return OUTSIDE;
        }
        if (itemCount >= MOST_ITEMS) {
            return NO_ROOM;
        }
        Item item = new Item(itemCount, Kind.BOX, height);
        item.depth = depth;
        return addToLine(item);
    }

    public int glue(int natural, int stretch, int order, int shrink) {
        if (!within(natural, -MOST_LENGTH, MOST_LENGTH) || !within(stretch, 0, MOST_LENGTH)
                || !within(order, 0, ORDERS - 1) || !within(shrink, 0, MOST_LENGTH)) {
            return OUTSIDE;
        }
        if (itemCount >= MOST_ITEMS) {
            return NO_ROOM;
        }
        Item item = new Item(itemCount, Kind.GLUE, natural);
        item.stretch = stretch;
        item.order = order;
        item.shrink = shrink;
        return addToLine(item);
    }

    public int kern(int k) {
        if (!within(k, -MOST_LENGTH, MOST_LENGTH)) {
            return OUTSIDE;
        }
        if (itemCount >= MOST_ITEMS) {
            return NO_ROOM;
        }
        return addToLine(new Item(itemCount, Kind.KERN, k));
    }

    public int penalty(int p) {
        if (!within(p, FORCED, FORBIDDEN)) {
            return OUTSIDE;
        }
        if (itemCount >= MOST_ITEMS) {
            return NO_ROOM;
        }
        return addToLine(new Item(itemCount, Kind.PENALTY, p));
    }

    public int insert(int cls, int height, boolean cuts) {
        if (!within(cls, 0, classCount - 1)) {
            return UNKNOWN;
        }
        if (!within(height, 1, MOST_LENGTH)) {
            return OUTSIDE;
        }
        if (itemCount >= MOST_ITEMS) {
            return NO_ROOM;
        }
        Item item = new Item(itemCount, Kind.INSERT, height);
        item.insertClass = classes[cls];
        item.cuts = cuts;
        item.left = height;
        return addToLine(item);
    }

    public int mark(int v) {
        if (itemCount >= MOST_ITEMS) {
            return NO_ROOM;
        }
        return addToLine(new Item(itemCount, Kind.MARK, v));
    }

    public int run() {
        int before = pageCount;
        boolean goesOn = true;
        for (int step = 0; goesOn && step < MOST_STEPS; step++) {
            goesOn = takeStep();
        }
        return pageCount - before;
    }

    public int at(int page, int i) {
        Page ended = endedPage(page);
        if (ended == null || !within(i, 0, ended.numbers.length - 1)) {
            return NONE;
        }
        return ended.numbers[i];
    }

    public int part(int page, int i) {
        Page ended = endedPage(page);
        if (ended == null || !within(i, 0, ended.parts.length - 1)) {
            return 0;
        }
        return ended.parts[i];
    }

    public long told(int page, int what) {
        Page ended = endedPage(page);
        if (ended == null) {
            return NONE;
        }
        switch (what) {
            case 0: return ended.numbers.length;
            case 9: return ended.cost;
            case 10: return ended.price;
            case 11:
            case 12:
            case 13:
            case 14: return ended.measure.stands[what - 11];
            default: return ended.measure.entry(what);
        }
    }

    public int marked(int page, int which) throws ArrayIndexOutOfBoundsException {
        Page ended = endedPage(page);
        if (ended == null || !within(which, 0, 2)) {
            throw new ArrayIndexOutOfBoundsException("no such page or which");
        }
        if (which == 0) {
            return ended.topMark;
        }
        return which == 1 ? ended.firstMark : ended.bottomMark;
    }

    public long now(int what) {
        Item first = line.look(0);
        switch (what) {
            case 0: return draft.size;
            case 9: return draft.cost;
            case 10: return draft.inserted;
            case 11: return line.size;
            case 12: return first == null ? NONE : first.number;
            case 13: return first == null ? 0 : first.left;
            default: return draft.measure.entry(what);
        }
    }

    public int badness(int t, int s) {
        if (t < 0 || s < 0) {
            return NONE;
        }
        return badnessOf(t, s);
    }

    public int count(int what) {
        switch (what) {
            case 0: return itemCount;
            case 1: return classCount;
            case 2: return pageCount;
            default: return NONE;
        }
    }

    public int check() {
        for (int i = 0; i < itemCount; i++) {
            items[i].startTally();
        }
        tallyPages();
        for (int i = 0; i < draft.size; i++) {
            draft.items[i].places++;
        }
        for (int i = 0; i < line.size; i++) {
            Item item = line.look(i);
            if (item != null) {
                item.places++;
            }
        }
        for (int i = 0; i < itemCount; i++) {
            if (!items[i].tallyIsRight()) {
                return 0;
            }
        }
        return 1;
    }

    private void tallyPages() {
        for (int p = 0; p < pageCount; p++) {
            Page page = pages[p];
            for (int i = 0; i < page.numbers.length; i++) {
                int number = page.numbers[i];
                if (within(number, 0, itemCount - 1)) {
                    items[number].tallyOnPage(page.parts[i]);
                }
            }
        }
    }

    private static boolean within(int value, int least, int most) {
        return value >= least && value <= most;
    }

    /** The callers have looked for room, as a refusal for a wrong range comes before one for no room. */
    private int addToLine(Item item) {
        items[itemCount] = item;
        itemCount++;
        line.addLast(item);
        return item.number;
    }

    private Page endedPage(int page) {
        return within(page, 0, pageCount - 1) ? pages[page] : null;
    }

    /** Deals with the line's first item, or ends the page before it; false when the line has to wait. */
    private boolean takeStep() {
        Item item = line.look(0);
        if (item == null || pageCount >= MOST_PAGES) {
            return false;
        }
        if (!draft.hasBox && item.kind.goesAtTop) {
            dropFirst();
            return true;
        }
        Item next = line.look(1);
        if (item.kind == Kind.KERN && next == null) {
            return false;
        }
        if (draft.mayBreakBefore(item, next) && draft.endsAt(item.price())) {
            endPage();
            return true;
        }
        line.takeFirst();
        draft.put(item);
        return true;
    }

    private void dropFirst() {
        Item item = line.takeFirst();
        if (item != null) {
            item.went = true;
        }
    }

    private void endPage() {
        Page before = endedPage(pageCount - 1);
        pages[pageCount] = new Page(draft, before == null ? 0 : before.bottomMark);
        pageCount++;
        putBackFromBreak();
        putBackInserts();
        draft.begin(goal, greatestDepth, top);
    }

    private void putBackFromBreak() {
        for (int i = draft.size - 1; i >= draft.breakSize; i--) {
            line.addFirst(draft.items[i]);
        }
        Item atBreak = line.look(0);
        if (atBreak != null && atBreak.kind == Kind.PENALTY) {
            dropFirst();
        }
    }

    /** Backwards, so that what is put before the line keeps its order. */
    private void putBackInserts() {
        for (int i = draft.breakSize - 1; i >= 0; i--) {
            Item item = draft.items[i];
            item.left -= draft.parts[i];
            if (item.left > 0) {
                line.addFirst(item);
            }
        }
    }

    /** The bounds keep each step within 32 bits, so that the answer is the same with shorter numbers. */
    private static int badnessOf(long t, long s) {
        if (t == 0) {
            return 0;
        }
        if (s <= 0) {
            return WORST;
        }
        long r = t;
        if (t <= 7230584) {
            r = 297 * t / s;
        } else if (s >= 1663497) {
            r = t / (s / 297);
        }
        return r > 1290 ? WORST : (int) ((r * r * r + 131072) / 262144);
    }

    private enum Kind {
        BOX(false), GLUE(true), KERN(true), PENALTY(true), INSERT(false), MARK(false);

        /** Whether an item of this kind is dropped while the page has no box. */
        final boolean goesAtTop;

        Kind(boolean goesAtTop) {
            this.goesAtTop = goesAtTop;
        }
    }

    private static final class InsertClass {
        final int number;
        final int room;
        final int factor;
        final int skip;
        final int penalty;

        InsertClass(int number, int room, int factor, int skip, int penalty) {
            this.number = number;
            this.room = room;
            this.factor = factor;
            this.skip = skip;
            this.penalty = penalty;
        }

        long byFactor(long height) {
            return height * factor / 1000;
        }
    }

    private static final class Item {
        final int number;
        final Kind kind;
        /** A box's or insert's height, glue's natural length, the kern, the penalty or the mark itself. */
        final int value;
        int depth;
        int stretch;
        int order;
        int shrink;
        InsertClass insertClass;
        boolean cuts;
        /** What of an insert's height stands on no ended page; 0 for all other items. */
        int left;
        boolean went;
        int places;
        long stood;

        Item(int number, Kind kind, int value) {
            this.number = number;
            this.kind = kind;
            this.value = value;
        }

        int price() {
            return kind == Kind.PENALTY ? value : 0;
        }

        void startTally() {
            places = went ? 1 : 0;
            stood = 0;
        }

        /** An insert that is not whole there is in a later place, too: only what stands counts. */
        void tallyOnPage(int part) {
            if (kind == Kind.INSERT) {
                stood += part;
            } else {
                places++;
            }
        }

        boolean tallyIsRight() {
            if (kind != Kind.INSERT) {
                return places == 1;
            }
            return places == (left > 0 ? 1 : 0) && stood + left == value;
        }
    }

    /** A ring, so that items can be put before the line as cheaply as behind it. */
    private static final class Line {
        private final Item[] ring = new Item[MOST_ITEMS];
        private int head;
        int size;

        Item look(int i) {
            return i >= 0 && i < size ? ring[(head + i) % MOST_ITEMS] : null;
        }

        void addLast(Item item) {
            if (size < MOST_ITEMS) {
                ring[(head + size) % MOST_ITEMS] = item;
                size++;
            }
        }

        void addFirst(Item item) {
            if (size < MOST_ITEMS) {
                head = (head + MOST_ITEMS - 1) % MOST_ITEMS;
                ring[head] = item;
                size++;
            }
        }

        Item takeFirst() {
            Item first = look(0);
            if (first != null) {
                head = (head + 1) % MOST_ITEMS;
                size--;
            }
            return first;
        }
    }

    /** The lengths of a page: of the one that is made, or as they were at a break. */
    private static final class Measure {
        long total;
        long goal;
        long depth;
        long shrink;
        final long[] stretch = new long[ORDERS];
        final long[] stands = new long[MOST_CLASSES];

        void clear(long newGoal) {
            total = 0;
            goal = newGoal;
            depth = 0;
            shrink = 0;
            for (int i = 0; i < ORDERS; i++) {
                stretch[i] = 0;
            }
            for (int i = 0; i < MOST_CLASSES; i++) {
                stands[i] = 0;
            }
        }

        void copyFrom(Measure other) {
            total = other.total;
            goal = other.goal;
            depth = other.depth;
            shrink = other.shrink;
            for (int i = 0; i < ORDERS; i++) {
                stretch[i] = other.stretch[i];
            }
            for (int i = 0; i < MOST_CLASSES; i++) {
                stands[i] = other.stands[i];
            }
        }

        /** The numbers that told and now give to lengths, the same in both. */
        long entry(int what) {
            switch (what) {
                case 1: return total;
                case 2: return goal;
                case 3: return depth;
                case 4:
                case 5:
                case 6:
                case 7: return stretch[what - 4];
                case 8: return shrink;
                default: return NONE;
            }
        }

        void grow(long length, long newDepth, long greatestDepth) {
            total += depth + length;
            depth = newDepth;
            if (depth > greatestDepth) {
                total += depth - greatestDepth;
                depth = greatestDepth;
            }
        }

        int badnessHere() {
            long over = total - goal;
            if (over > shrink) {
                return AWFUL;
            }
            if (over >= 0) {
                return badnessOf(over, shrink);
            }
            if (stretch[1] != 0 || stretch[2] != 0 || stretch[3] != 0) {
                return 0;
            }
            return badnessOf(-over, stretch[0]);
        }
    }

    /** The page that is made. Its rows are used again for every page. */
    private static final class Draft {
        final Item[] items = new Item[MOST_ITEMS];
        final int[] parts = new int[MOST_ITEMS];
        int size;
        boolean hasBox;
        private long greatestDepth;
        private long top;
        final Measure measure = new Measure();
        private final boolean[] opened = new boolean[MOST_CLASSES];
        private final boolean[] closed = new boolean[MOST_CLASSES];
        long inserted;
        long cost;
        int breakSize;
        int breakPrice;
        final Measure atBreak = new Measure();

        void begin(int goal, int newGreatestDepth, int newTop) {
            size = 0;
            hasBox = false;
            greatestDepth = newGreatestDepth;
            top = newTop;
            measure.clear(goal);
            for (int i = 0; i < MOST_CLASSES; i++) {
                opened[i] = false;
                closed[i] = false;
            }
            inserted = 0;
            cost = AWFUL;
            breakSize = 0;
            breakPrice = 0;
        }

        boolean mayBreakBefore(Item item, Item next) {
            if (item.kind == Kind.GLUE) {
                return size > 0 && !items[size - 1].kind.goesAtTop;
            }
            if (item.kind == Kind.KERN) {
                return next != null && next.kind == Kind.GLUE;
            }
            return item.kind == Kind.PENALTY && item.value < FORBIDDEN;
        }

        /** Weighs a break behind the items so far, and tells whether the page ends with that. */
        boolean endsAt(int price) {
            long c = costAt(price);
            if (c <= cost) {
                cost = c;
                breakSize = size;
                breakPrice = price;
                atBreak.copyFrom(measure);
            }
            return c == AWFUL || price == FORCED;
        }

        private long costAt(int price) {
            int b = measure.badnessHere();
            if (b == AWFUL || inserted >= WORST) {
                return AWFUL;
            }
            if (price == FORCED) {
                return price;
            }
            return b < WORST ? b + price + inserted : DEPLORABLE;
        }

        void put(Item item) {
            if (size >= MOST_ITEMS) {
                return;
            }
            items[size] = item;
            parts[size] = item.insertClass == null ? 0 : putInsert(item, item.insertClass);
            size++;
            if (item.kind == Kind.BOX) {
                putBox(item);
            } else if (item.kind == Kind.GLUE) {
                measure.grow(item.value, 0, greatestDepth);
                measure.stretch[item.order] += item.stretch;
                measure.shrink += item.shrink;
            } else if (item.kind == Kind.KERN) {
                measure.grow(item.value, 0, greatestDepth);
            }
        }

        private void putBox(Item item) {
            if (!hasBox && item.value < top) {
                measure.total += top - item.value;
            }
            hasBox = true;
            measure.grow(item.value, item.depth, greatestDepth);
        }

        private int putInsert(Item item, InsertClass c) {
            if (!opened[c.number]) {
                opened[c.number] = true;
                measure.goal -= c.skip;
            }
            int part = closed[c.number] ? 0 : partThatFits(item, c);
            measure.stands[c.number] += part;
            measure.goal -= c.byFactor(part);
            if (part < item.left) {
                closed[c.number] = true;
                inserted += c.penalty;
            }
            return part;
        }

        /** Shrink helps a whole insert to fit, but is not counted on where one is cut. */
        private int partThatFits(Item item, InsertClass c) {
            long free = measure.goal - measure.total - measure.depth;
            long room = c.room - measure.stands[c.number];
            long need = c.byFactor(item.left);
            if ((need == 0 || need <= free + measure.shrink) && item.left <= room) {
                return item.left;
            }
            if (!item.cuts) {
                return 0;
            }
            long most = Math.min(item.left - 1, room);
            if (c.factor > 0) {
                most = Math.min(most, free * 1000 / c.factor);
            }
            return most < 1 ? 0 : (int) most;
        }
    }

    /** A page that ended, as it was at its break. */
    private static final class Page {
        final int[] numbers;
        final int[] parts;
        final Measure measure = new Measure();
        final long cost;
        final int price;
        final int topMark;
        final int firstMark;
        final int bottomMark;

        Page(Draft draft, int markBefore) {
            int size = draft.breakSize;
            numbers = new int[size];
            parts = new int[size];
            int first = markBefore;
            int bottom = markBefore;
            boolean hasMark = false;
            for (int i = 0; i < size; i++) {
                Item item = draft.items[i];
                numbers[i] = item.number;
                parts[i] = draft.parts[i];
                if (item.kind == Kind.MARK) {
                    first = hasMark ? first : item.value;
                    bottom = item.value;
                    hasMark = true;
                }
            }
            measure.copyFrom(draft.atBreak);
            cost = draft.cost;
            price = draft.breakPrice;
            topMark = markBefore;
            firstMark = first;
            bottomMark = bottom;
        }
    }
}
