import java.util.Arrays;

/**
 * An ice house: blocks in columns that melt week by week, orders that take from the tops,
 * and questions about what was, what had better be, and how likely it is.
 */
public final class IceHouse {
    public static final int NONE = -1, BAD = -2, NOT = -3, FULL = -4;

    private static final int COLUMNS = 6, HEIGHTS = 6, PLACES = 36, WEEKS = 24, GREATEST = 9;
    private static final int BLOCK_BYTES = 41, ORDER_BYTES = 35;
    private static final int MOST_ORDERS = 12, MOST_EVENTS = 8, MOST_SEEN = 8;
    private static final int SHEETS = 4, MOST_ITEMS = 60;
    private static final int DOOR = 0, THAW = 1, STRAW = 2;
    private static final int BYTES = 0, SHORTS = 1, INTS = 2, LOST = -1;
    private static final int NULL = 1, INDEX = 2, CAST = 3, STORE = 4, SIZE = 5;
    private static final int ALL_EVENTS = 255, SUBSETS = 256;
    private static final int LEAST_INT = 0x80000000;
    private static final long LEAST_LONG = 0x8000000000000000L;

    private final Book book;
    private final Plans plans;
    private final Summer summer;
    private final Sheet[] sheets;
    private boolean summerIsKnown;
    private int finding;

    public IceHouse() {
        book = new Book();
        plans = new Plans(book);
        summer = new Summer(true);
        sheets = new Sheet[SHEETS];
        for (int s = 0; s < SHEETS; s++) {
            sheets[s] = new Sheet();
        }
        summerIsKnown = false;
        finding = 0;
    }

    // ---- blocks, orders, events

    public int type(int text, int b) {
        if (outside(text, 1) || outside(b, 255)) {
            return BAD;
        }
        Text typed = book.textOf(text);
        if (typed.length >= typed.most) {
            return FULL;
        }
        typed.append(b);
        noteChangedText(text);
        return typed.length;
    }

    public int wipe(int text) {
        if (outside(text, 1)) {
            return BAD;
        }
        Text typed = book.textOf(text);
        int had = typed.length;
        typed.length = 0;
        noteChangedText(text);
        return had;
    }

    public int undo(int text) {
        if (outside(text, 1)) {
            return BAD;
        }
        Text typed = book.textOf(text);
        if (typed.length == 0) {
            return NOT;
        }
        typed.length--;
        noteChangedText(text);
        return typed.length;
    }

    public int fault(int text) {
        if (outside(text, 1)) {
            return BAD;
        }
        return text == 0 ? book.blocksFault : book.ordersFault;
    }

    public int told(int column, int height) {
        if (outside(column, COLUMNS - 1) || outside(height, HEIGHTS - 1)) {
            return BAD;
        }
        return book.blocks.great[column * HEIGHTS + height];
    }

    public int order(int order, int what) {
        if (outside(order, book.orders.number - 1) || outside(what, 1)) {
            return BAD;
        }
        return what == 0 ? book.orders.week[order] : book.orders.wanted[order];
    }

    public int event(int kind, int week, int number) {
        if (!Events.mayBe(kind, week, number)) {
            return BAD;
        }
        if (book.events.number >= MOST_EVENTS) {
            return FULL;
        }
        book.events.append(kind, week, number);
        noteChange();
        return book.events.number;
    }

    public int back() {
        if (book.events.number == 0) {
            return NOT;
        }
        book.events.number--;
        noteChange();
        return book.events.number;
    }

    public int read(int s) {
        if (outside(s, SHEETS - 1)) {
            return BAD;
        }
        Sheet sheet = sheets[s];
        if (sheet.form == LOST) {
            return found(NULL);
        }
        Events events = book.events;
        int before = events.number;
        for (int i = 0; i + 2 < sheet.length && events.number < MOST_EVENTS; i += 3) {
            int kind = sheet.items[i], week = sheet.items[i + 1], number = sheet.items[i + 2];
            if (!Events.mayBe(kind, week, number)) {
                break;
            }
            events.append(kind, week, number);
        }
        noteChange();
        return events.number - before;
    }

    // ---- weeks

    public int column(int week, int column, int what) {
        if (outside(week, WEEKS - 1) || outside(column, COLUMNS - 1) || outside(what, 1)) {
            return BAD;
        }
        Summer known = toldSummer();
        return what == 0 ? Summer.highIn(known.shape[week], column) : known.standingIn(week, column);
    }

    public int block(int week, int column, int height) {
        if (outside(week, WEEKS - 1) || outside(column, COLUMNS - 1) || outside(height, HEIGHTS - 1)) {
            return BAD;
        }
        return toldSummer().history[week * PLACES + column * HEIGHTS + height];
    }

    public int ice(int week, int what) {
        if (outside(week, WEEKS - 1) || outside(what, 1)) {
            return BAD;
        }
        return what == 0 ? toldSummer().ice[week] : toldSummer().water[week];
    }

    public int got(int order, int what) {
        if (outside(order, book.orders.number - 1) || outside(what, 1)) {
            return BAD;
        }
        Summer known = toldSummer();
        return what == 0 ? known.has[order] : known.shortBits >> order & 1;
    }

    public int sum(int what) {
        if (outside(what, 1)) {
            return BAD;
        }
        return what == 0 ? toldSummer().sumOfAll() : toldSummer().shortOrders();
    }

    public int bare(int column) {
        if (outside(column, COLUMNS - 1)) {
            return BAD;
        }
        Summer known = toldSummer();
        for (int week = 0; week < WEEKS; week++) {
            if (Summer.highIn(known.shape[week], column) == 0) {
                return week;
            }
        }
        return NONE;
    }

    public int last() {
        Summer known = toldSummer();
        for (int week = 0; week < WEEKS; week++) {
            if (known.ice[week] == 0) {
                return week;
            }
        }
        return NONE;
    }

    public int tall() {
        int shape = toldSummer().shape[WEEKS - 1];
        int tallest = 0;
        for (int column = 1; column < COLUMNS; column++) {
            if (Summer.highIn(shape, column) > Summer.highIn(shape, tallest)) {
                tallest = column;
            }
        }
        return tallest;
    }

    public int drain(int what) {
        if (outside(what, 1)) {
            return BAD;
        }
        int[] water = toldSummer().water;
        int most = 0;
        for (int week = 1; week < WEEKS; week++) {
            if (water[week] > water[most]) {
                most = week;
            }
        }
        return what == 0 ? most : water[most];
    }

    // ---- plans

    public int cover(int what) {
        if (outside(what, 1)) {
            return BAD;
        }
        plans.findCover();
        return what == 0 ? plans.first : plans.much;
    }

    public int swap(int what) {
        if (outside(what, 2)) {
            return BAD;
        }
        plans.findSwap();
        return what == 0 ? plans.first : what == 1 ? plans.second : plans.much;
    }

    public int later(int order, int what) {
        if (outside(order, book.orders.number - 1) || outside(what, 1)) {
            return BAD;
        }
        plans.findWait(order);
        return what == 0 ? plans.first : plans.much;
    }

    public int spare(int i) {
        if (i < NONE || i > 1) {
            return BAD;
        }
        plans.findSpare();
        return i == NONE ? plans.much : i == 0 ? plans.first : plans.second;
    }

    // ---- seen, chance, summers

    public int seen(int week, int column, int high) {
        if (outside(week, WEEKS - 1) || outside(column, COLUMNS - 1) || outside(high, HEIGHTS)) {
            return BAD;
        }
        if (book.seen.number >= MOST_SEEN) {
            return FULL;
        }
        book.seen.append(week, column, high);
        return book.seen.number;
    }

    public int forget() {
        int had = book.seen.number;
        book.seen.number = 0;
        return had;
    }

    public int never() {
        return plans.findNever();
    }

    public int size(int column, int height) {
        return isNoBlock(column, height) ? BAD : plans.findSizes(column, height);
    }

    public int ask(int column, int height) {
        return isNoBlock(column, height) ? BAD : plans.findAsk(plans.findSizes(column, height));
    }

    public long chance(int c, int order, int what) {
        if (outside(c, 16) || outside(order, book.orders.number - 1) || outside(what, 1)) {
            return LEAST_LONG - BAD;
        }
        plans.findChance(c, order);
        return what == 0 ? plans.above : plans.below;
    }

    public int summers(int seed, int n, int what) {
        if (outside(n, MOST_EVENTS) || outside(what, 1)) {
            return BAD;
        }
        Summer drawn = plans.drawnSummer(seed, n);
        return what == 0 ? drawn.ice[WEEKS - 1] : drawn.shortOrders();
    }

    // ---- sheets

    public int sheet(int s, int form, int n) {
        if (outside(s, SHEETS - 1) || outside(form, INTS) || n > MOST_ITEMS) {
            return BAD;
        }
        if (n < 0) {
            return found(SIZE);
        }
        sheets[s].renew(form, n);
        return n;
    }

    public int lose(int s) {
        if (outside(s, SHEETS - 1)) {
            return BAD;
        }
        Sheet sheet = sheets[s];
        if (sheet.form == LOST) {
            return found(NULL);
        }
        sheet.form = LOST;
        return sheet.length;
    }

    public int lay(int s, int form, int i, int v) {
        if (outside(s, SHEETS - 1) || outside(form, INTS)) {
            return BAD;
        }
        int hindrance = sheets[s].hindrance(form, i);
        if (hindrance != 0) {
            return found(hindrance);
        }
        sheets[s].put(i, v);
        return 1;
    }

    public int get(int s, int form, int i) {
        if (outside(s, SHEETS - 1) || outside(form, INTS)) {
            return LEAST_INT;
        }
        int hindrance = sheets[s].hindrance(form, i);
        if (hindrance != 0) {
            finding = hindrance;
            return LEAST_INT;
        }
        return sheets[s].items[i];
    }

    public int copy(int s, int i, int t, int j, int n) {
        if (outside(s, SHEETS - 1) || outside(t, SHEETS - 1)) {
            return BAD;
        }
        Sheet from = sheets[s], to = sheets[t];
        if (from.form == LOST || to.form == LOST) {
            return found(NULL);
        }
        if (from.form != to.form) {
            return found(STORE);
        }
        if (!from.hasRow(i, n) || !to.hasRow(j, n)) {
            return found(INDEX);
        }
        System.arraycopy(from.items, i, to.items, j, n);
        return 1;
    }

    public int write(int column, int s) {
        if (outside(column, COLUMNS - 1) || outside(s, SHEETS - 1)) {
            return BAD;
        }
        Sheet sheet = sheets[s];
        if (sheet.form == LOST) {
            return found(NULL);
        }
        int written = Math.min(sheet.length, WEEKS);
        Summer known = toldSummer();
        for (int week = 0; week < written; week++) {
            sheet.put(week, known.standingIn(week, column));
        }
        return written;
    }

    public int count(int what) {
        switch (what) {
            case 0: return book.blocks.numberOfBlocks();
            case 1: return book.orders.number;
            case 2: return book.blocksText.length;
            case 3: return book.ordersText.length;
            case 4: return book.events.number;
            case 5: return toldSummer().ice[WEEKS - 1];
            case 6: return toldSummer().shortOrders();
            case 7: return book.seen.number;
            case 8: return finding;
            default: return BAD;
        }
    }

    public long digest() {
        long h = 17;
        for (int what = 0; what <= 7; what++) {
            h = mixed(h, count(what));
        }
        h = mixed(mixed(h, fault(0)), fault(1));
        for (int week = 0; week < WEEKS; week++) {
            h = mixed(mixed(h, ice(week, 0)), ice(week, 1));
        }
        for (int column = 0; column < COLUMNS; column++) {
            h = mixedColumn(h, column);
        }
        for (int i = 0; i < book.orders.number; i++) {
            h = mixedOrder(h, i);
        }
        return mixedPlans(h);
    }

    private static long mixed(long h, long value) {
        return 31 * h + value;
    }

    private long mixedColumn(long begun, int column) {
        long h = mixed(begun, bare(column));
        for (int height = 0; height < HEIGHTS; height++) {
            h = mixed(mixed(h, told(column, height)), block(4, column, height));
            if (!isNoBlock(column, height)) {
                // one set of trials answers both questions
                int sizes = plans.findSizes(column, height);
                h = mixed(mixed(h, sizes), plans.findAsk(sizes));
            }
        }
        return mixed(mixed(h, column(11, column, 0)), column(11, column, 1));
    }

    private long mixedOrder(long begun, int i) {
        long h = mixed(mixed(begun, order(i, 0)), order(i, 1));
        h = mixed(mixed(h, got(i, 0)), got(i, 1));
        plans.findWait(i);
        h = mixed(mixed(h, plans.first), plans.much);
        plans.findChance(5, i);
        return mixed(mixed(h, plans.above), plans.below);
    }

    private long mixedPlans(long begun) {
        long h = mixed(mixed(begun, sum(0)), sum(1));
        h = mixed(mixed(h, last()), tall());
        h = mixed(mixed(h, drain(0)), drain(1));
        plans.findCover();
        h = mixed(mixed(h, plans.first), plans.much);
        plans.findSwap();
        h = mixed(mixed(mixed(h, plans.first), plans.second), plans.much);
        plans.findSpare();
        h = mixed(mixed(h, plans.much), plans.first);
        h = mixed(h, plans.findNever());
        Summer drawn = plans.drawnSummer(7, 6);
        return mixed(mixed(h, drawn.ice[WEEKS - 1]), drawn.shortOrders());
    }

    private static boolean outside(int value, int most) {
        return value < 0 || value > most;
    }

    private boolean isNoBlock(int column, int height) {
        return outside(column, COLUMNS - 1) || outside(height, HEIGHTS - 1)
            || book.blocks.great[column * HEIGHTS + height] == 0;
    }

    private int found(int number) {
        finding = number;
        return -10 - number;
    }

    private void noteChangedText(int text) {
        if (text == 0) {
            book.parseBlocks();
        } else {
            book.parseOrders();
        }
        noteChange();
    }

    private void noteChange() {
        summerIsKnown = false;
        plans.shortsAreKnown = false;
    }

    private Summer toldSummer() {
        if (!summerIsKnown) {
            summer.prepare(book, ALL_EVENTS);
            summer.run();
            summerIsKnown = true;
        }
        return summer;
    }

    /** A text as it is typed, byte by byte. */
    private static final class Text {
        final int most;
        final int[] bytes = new int[BLOCK_BYTES];
        int length;

        Text(int atMost) {
            most = Math.min(atMost, BLOCK_BYTES);
        }

        void append(int b) {
            if (length < most) {
                bytes[length] = b;
                length++;
            }
        }
    }

    /** How blocks stand, each column from the ground up; a place without a block holds 0. */
    private static final class Stand {
        final int[] great = new int[PLACES];
        final int[] high = new int[COLUMNS];

        void clearAll() {
            Arrays.fill(great, 0);
            Arrays.fill(high, 0);
        }

        void become(Stand other) {
            System.arraycopy(other.great, 0, great, 0, PLACES);
            System.arraycopy(other.high, 0, high, 0, COLUMNS);
        }

        void putOnTop(int column, int howGreat) {
            if (high[column] < HEIGHTS) {
                great[column * HEIGHTS + high[column]] = howGreat;
                high[column]++;
            }
        }

        int takeFromTop(int column) {
            if (high[column] == 0) {
                return 0;
            }
            high[column]--;
            int place = column * HEIGHTS + high[column];
            int taken = great[place];
            great[place] = 0;
            return taken;
        }

        int columnOfGreatestTop() {
            int best = NONE, greatest = 0;
            for (int column = 0; column < COLUMNS; column++) {
                int top = high[column] == 0 ? 0 : great[column * HEIGHTS + high[column] - 1];
                if (top > greatest) {
                    best = column;
                    greatest = top;
                }
            }
            return best;
        }

        void exchange(int one, int other) {
            for (int height = 0; height < HEIGHTS; height++) {
                int held = great[one * HEIGHTS + height];
                great[one * HEIGHTS + height] = great[other * HEIGHTS + height];
                great[other * HEIGHTS + height] = held;
            }
            int held = high[one];
            high[one] = high[other];
            high[other] = held;
        }

        int numberOfBlocks() {
            int number = 0;
            for (int column = 0; column < COLUMNS; column++) {
                number += high[column];
            }
            return number;
        }

        int total() {
            int total = 0;
            for (int place = 0; place < PLACES; place++) {
                total += great[place];
            }
            return total;
        }

        /** All heights in one number, three bits a column, so that two weeks compare at once. */
        int shapeOfAll() {
            int shape = 0;
            for (int column = 0; column < COLUMNS; column++) {
                shape |= high[column] << 3 * column;
            }
            return shape;
        }
    }

    /** Orders in the row in which they are told. */
    private static final class Orders {
        final int[] week = new int[MOST_ORDERS];
        final int[] wanted = new int[MOST_ORDERS];
        int number;

        void become(Orders other) {
            System.arraycopy(other.week, 0, week, 0, MOST_ORDERS);
            System.arraycopy(other.wanted, 0, wanted, 0, MOST_ORDERS);
            number = other.number;
        }
    }

    /** Events in the row in which they are told. */
    private static final class Events {
        final int[] kind = new int[MOST_EVENTS];
        final int[] week = new int[MOST_EVENTS];
        final int[] what = new int[MOST_EVENTS];
        int number;

        static boolean mayBe(int kind, int week, int number) {
            return !outside(kind, STRAW) && !outside(week, WEEKS - 1) && !outside(number, COLUMNS - 1);
        }

        void append(int itsKind, int itsWeek, int itsNumber) {
            if (number < MOST_EVENTS) {
                kind[number] = itsKind;
                week[number] = itsWeek;
                what[number] = itsNumber;
                number++;
            }
        }
    }

    /** How high columns were seen to be. */
    private static final class Seen {
        final int[] week = new int[MOST_SEEN];
        final int[] column = new int[MOST_SEEN];
        final int[] high = new int[MOST_SEEN];
        int number;

        void append(int itsWeek, int itsColumn, int itsHigh) {
            if (number < MOST_SEEN) {
                week[number] = itsWeek;
                column[number] = itsColumn;
                high[number] = itsHigh;
                number++;
            }
        }

        boolean fits(int[] shapeOfWeek) {
            for (int i = 0; i < number; i++) {
                if (Summer.highIn(shapeOfWeek[week[i]], column[i]) != high[i]) {
                    return false;
                }
            }
            return true;
        }
    }

    /** All that was told: the texts and what they mean, the events, what was seen. */
    private static final class Book {
        final Text blocksText = new Text(BLOCK_BYTES);
        final Text ordersText = new Text(ORDER_BYTES);
        final Stand blocks = new Stand();
        final Orders orders = new Orders();
        final Events events = new Events();
        final Seen seen = new Seen();
        int blocksFault = NONE;
        int ordersFault = NONE;

        Text textOf(int text) {
            return text == 0 ? blocksText : ordersText;
        }

        void parseBlocks() {
            blocks.clearAll();
            blocksFault = placeBlocks();
            if (blocksFault != NONE) {
                blocks.clearAll();
            }
        }

        private int placeBlocks() {
            int column = 0;
            for (int i = 0; i < blocksText.length; i++) {
                int b = blocksText.bytes[i];
                if (b == ';' && column < COLUMNS - 1) {
                    column++;
                } else if (isFigure(b) && blocks.high[column] < HEIGHTS) {
                    blocks.putOnTop(column, b - '0');
                } else {
                    return i;
                }
            }
            return NONE;
        }

        void parseOrders() {
            orders.number = 0;
            ordersFault = placeOrders();
            if (ordersFault != NONE) {
                orders.number = 0;
            }
        }

        private int placeOrders() {
            int length = ordersText.length;
            for (int i = 0; i < length; i++) {
                int b = ordersText.bytes[i], part = i % 3;
                if (part == 0 && b >= 'a' && b <= 'x' && orders.number < MOST_ORDERS) {
                    orders.week[orders.number] = b - 'a';
                } else if (part == 1 && isFigure(b) && orders.number < MOST_ORDERS) {
                    orders.wanted[orders.number] = b - '0';
                    orders.number++;
                } else if (part != 2 || b != ';') {
                    return i;
                }
            }
            return length == 0 || length % 3 == 2 ? NONE : length;
        }

        private static boolean isFigure(int b) {
            return b >= '1' && b <= '9';
        }
    }

    /** Doors, thaws and straw of one summer. */
    private static final class Weather {
        final int[] strawFrom = new int[COLUMNS];
        int doorWeeks;
        int thawWeeks;

        void beCalm() {
            Arrays.fill(strawFrom, WEEKS);
            doorWeeks = 0;
            thawWeeks = 0;
        }

        void happen(int kind, int week, int number) {
            if (kind == DOOR) {
                doorWeeks |= 1 << week;
            } else if (kind == THAW) {
                thawWeeks |= 1 << week;
            } else if (kind == STRAW) {
                strawFrom[number] = Math.min(strawFrom[number], week);
            }
        }
    }

    /** One summer: it is prepared, perhaps altered, run through its weeks, and looked at. */
    private static final class Summer {
        final Stand now = new Stand();
        final Orders orders = new Orders();
        final Weather weather = new Weather();
        final int[] has = new int[MOST_ORDERS];
        final int[] ice = new int[WEEKS];
        final int[] water = new int[WEEKS];
        final int[] shape = new int[WEEKS];
        /** Every block behind every week, in the one summer of which that is asked. */
        final int[] history;
        final boolean keepsHistory;
        private final int[] stood = new int[COLUMNS];
        int shortBits;

        Summer(boolean keeps) {
            keepsHistory = keeps;
            history = new int[keeps ? WEEKS * PLACES : 0];
        }

        static int highIn(int shape, int column) {
            return shape >> 3 * column & 7;
        }

        void prepare(Book book, int eventBits) {
            now.become(book.blocks);
            orders.become(book.orders);
            weather.beCalm();
            Events events = book.events;
            for (int i = 0; i < events.number; i++) {
                if ((eventBits >> i & 1) == 1) {
                    weather.happen(events.kind[i], events.week[i], events.what[i]);
                }
            }
        }

        void run() {
            shortBits = 0;
            int standing = now.total();
            for (int week = 0; week < WEEKS; week++) {
                for (int i = 0; i < orders.number; i++) {
                    if (orders.week[i] == week) {
                        serve(i);
                        standing -= has[i];
                    }
                }
                water[week] = melt(week);
                standing -= water[week];
                ice[week] = standing;
                shape[week] = now.shapeOfAll();
                if (keepsHistory) {
                    System.arraycopy(now.great, 0, history, week * PLACES, PLACES);
                }
            }
        }

        private void serve(int i) {
            int taken = 0;
            for (int blocks = 0; blocks < PLACES && taken < orders.wanted[i]; blocks++) {
                int column = now.columnOfGreatestTop();
                if (column == NONE) {
                    break;
                }
                taken += now.takeFromTop(column);
            }
            has[i] = taken;
            if (taken < orders.wanted[i]) {
                shortBits |= 1 << i;
            }
        }

        private int melt(int week) {
            // all blocks melt at once, so each column looks at how its neighbours stood before
            System.arraycopy(now.high, 0, stood, 0, COLUMNS);
            int melted = 0;
            for (int column = 0; column < COLUMNS; column++) {
                if (stood[column] > 0) {
                    melted += meltColumn(column, week);
                }
            }
            return melted;
        }

        private int meltColumn(int column, int week) {
            // the hill is like a column that is never lower
            int left = column == 0 ? HEIGHTS : stood[column - 1];
            int right = column == COLUMNS - 1 ? HEIGHTS : stood[column + 1];
            int top = stood[column] - 1;
            boolean straw = weather.strawFrom[column] <= week;
            int door = weather.doorWeeks >> week & 1, thaw = weather.thawWeeks >> week & 1;
            // what is lower than this has no free side
            int lowest = Math.min(top, Math.min(left, right));
            int melted = 0, kept = lowest;
            for (int height = lowest; height <= top; height++) {
                int openTop = height == top && !straw ? 1 : 0;
                int free = openTop + (left <= height ? 1 : 0) + (right <= height ? 1 : 0);
                int loss = free / 2 + door * openTop + (free > 0 ? thaw : 0);
                int was = now.great[column * HEIGHTS + height];
                int rest = Math.max(0, was - loss);
                melted += was - rest;
                now.great[column * HEIGHTS + height] = 0;
                if (rest > 0) {
                    now.great[column * HEIGHTS + kept] = rest;
                    kept++;
                }
            }
            now.high[column] = kept;
            return melted;
        }

        int standingIn(int week, int column) {
            int standing = 0;
            for (int height = 0; height < HEIGHTS && keepsHistory; height++) {
                standing += history[week * PLACES + column * HEIGHTS + height];
            }
            return standing;
        }

        int sumOfAll() {
            int sum = 0;
            for (int i = 0; i < orders.number; i++) {
                sum += has[i];
            }
            return sum;
        }

        int shortOrders() {
            return Integer.bitCount(shortBits);
        }
    }

    /** What comes of summers that differ a little from the one that is told. */
    private static final class Plans {
        private final Book book;
        private final Summer trial = new Summer(false);
        /** For each set of events that are, which orders are short then. */
        private final int[] shortsOf = new int[SUBSETS];
        /** For each greatness of a block, the shapes behind all weeks. */
        private final int[] shapesOf = new int[GREATEST * WEEKS];
        boolean shortsAreKnown;
        int first;
        int second;
        int much;
        long above;
        long below;

        Plans(Book told) {
            book = told;
        }

        void findCover() {
            first = NONE;
            much = NONE;
            for (int column = 0; column < COLUMNS; column++) {
                trial.prepare(book, ALL_EVENTS);
                trial.weather.happen(STRAW, 0, column);
                trial.run();
                int ice = trial.ice[WEEKS - 1];
                if (ice > much) {
                    much = ice;
                    first = column;
                }
            }
        }

        void findSwap() {
            first = NONE;
            second = NONE;
            much = NONE;
            for (int one = 0; one < COLUMNS; one++) {
                for (int other = one + 1; other < COLUMNS; other++) {
                    trial.prepare(book, ALL_EVENTS);
                    trial.now.exchange(one, other);
                    trial.run();
                    int ice = trial.ice[WEEKS - 1];
                    if (ice > much) {
                        much = ice;
                        first = one;
                        second = other;
                    }
                }
            }
        }

        void findWait(int order) {
            first = NONE;
            much = MOST_ORDERS + 1;
            for (int week = 0; week < WEEKS; week++) {
                trial.prepare(book, ALL_EVENTS);
                trial.orders.week[order] = week;
                trial.run();
                if (trial.shortOrders() < much) {
                    much = trial.shortOrders();
                    first = week;
                }
            }
        }

        private boolean noneIsShortWithout(int eventBits) {
            trial.prepare(book, ALL_EVENTS & ~eventBits);
            trial.run();
            return trial.shortBits == 0;
        }

        private void keepSpare(int howMany, int one, int other) {
            much = howMany;
            first = one;
            second = other;
        }

        void findSpare() {
            keepSpare(NONE, NONE, NONE);
            int events = book.events.number;
            if (noneIsShortWithout(0)) {
                keepSpare(0, NONE, NONE);
            }
            for (int one = 0; one < events && much == NONE; one++) {
                if (noneIsShortWithout(1 << one)) {
                    keepSpare(1, one, NONE);
                }
            }
            for (int one = 0; one < events && much == NONE; one++) {
                for (int other = one + 1; other < events && much == NONE; other++) {
                    if (noneIsShortWithout(1 << one | 1 << other)) {
                        keepSpare(2, one, other);
                    }
                }
            }
        }

        int findNever() {
            int bits = 0;
            for (int i = 0; i < book.events.number; i++) {
                trial.prepare(book, ALL_EVENTS & ~(1 << i));
                trial.run();
                if (book.seen.fits(trial.shape)) {
                    bits |= 1 << i;
                }
            }
            return bits;
        }

        int findSizes(int column, int height) {
            int bits = 0;
            for (int size = 1; size <= GREATEST; size++) {
                trial.prepare(book, ALL_EVENTS);
                trial.now.great[column * HEIGHTS + height] = size;
                trial.run();
                System.arraycopy(trial.shape, 0, shapesOf, (size - 1) * WEEKS, WEEKS);
                if (book.seen.fits(trial.shape)) {
                    bits |= 1 << size;
                }
            }
            return bits;
        }

        /** To be asked right behind findSizes, whose shapes it goes by. */
        int findAsk(int sizes) {
            int best = NONE, least = GREATEST + 1;
            for (int week = 0; week < WEEKS; week++) {
                int alike = mostAlike(sizes, week);
                if (alike < least) {
                    least = alike;
                    best = week;
                }
            }
            return best;
        }

        private int mostAlike(int sizes, int week) {
            int most = 0;
            for (int one = 1; one <= GREATEST; one++) {
                int alike = 0;
                for (int other = 1; other <= GREATEST; other++) {
                    if ((sizes >> one & sizes >> other & 1) == 1
                        && shapesOf[(one - 1) * WEEKS + week] == shapesOf[(other - 1) * WEEKS + week]) {
                        alike++;
                    }
                }
                most = Math.max(most, alike);
            }
            return most;
        }

        void findChance(int c, int order) {
            learnShorts();
            int events = book.events.number;
            above = 0;
            for (int subset = 0; subset < 1 << events; subset++) {
                if ((shortsOf[subset] >> order & 1) == 1) {
                    int there = Integer.bitCount(subset);
                    above += power(c, there) * power(16 - c, events - there);
                }
            }
            below = power(16, events);
            // below is a power of 2, so nothing but 2 can be in both
            for (int halving = 0; halving < 4 * MOST_EVENTS; halving++) {
                if (above % 2 == 0 && below % 2 == 0) {
                    above /= 2;
                    below /= 2;
                }
            }
        }

        private void learnShorts() {
            for (int subset = 0; subset < 1 << book.events.number && !shortsAreKnown; subset++) {
                trial.prepare(book, subset);
                trial.run();
                shortsOf[subset] = trial.shortBits;
            }
            shortsAreKnown = true;
        }

        private static long power(long base, int times) {
            long product = 1;
            for (int i = 0; i < times; i++) {
                product *= base;
            }
            return product;
        }

        Summer drawnSummer(int seed, int n) {
            trial.prepare(book, 0);
            int state = seed;
            for (int i = 0; i < n; i++) {
                state = nextSeed(state);
                int kind = lot(state, 3);
                state = nextSeed(state);
                int week = lot(state, WEEKS);
                state = nextSeed(state);
                trial.weather.happen(kind, week, lot(state, COLUMNS));
            }
            trial.run();
            return trial;
        }

        private static int nextSeed(int seed) {
            return 1103515245 * seed + 12345;
        }

        private static int lot(int seed, int m) {
            return m < 1 ? 0 : (seed >>> 16) % m;
        }
    }

    /** A row of items of a form, or lost. */
    private static final class Sheet {
        final int[] items = new int[MOST_ITEMS];
        int form = LOST;
        int length;

        void renew(int itsForm, int itsLength) {
            Arrays.fill(items, 0);
            form = itsForm;
            length = itsLength;
        }

        /** The finding that stands against item i as of a form; 0 if none does. */
        int hindrance(int asForm, int i) {
            if (form == LOST) {
                return NULL;
            }
            if (form != asForm) {
                return CAST;
            }
            return outside(i, length - 1) ? INDEX : 0;
        }

        boolean hasRow(int from, int n) {
            return from >= 0 && n >= 0 && from <= length && n <= length - from;
        }

        void put(int i, int v) {
            if (!outside(i, length - 1)) {
                items[i] = form == BYTES ? (byte) v : form == SHORTS ? (short) v : v;
            }
        }
    }
}
