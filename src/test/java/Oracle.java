import java.math.BigInteger;
import java.util.ArrayList;
import java.util.Arrays;
import java.util.HashMap;
import java.util.List;
import java.util.Map;

/**
 * The document once more, written another way: lists for columns, regular expressions for texts,
 * real arrays for sheets, every answer from the beginning. Slow and plain; OracleTest compares.
 */
final class Oracle {
    private final StringBuilder[] texts = {new StringBuilder(), new StringBuilder()};
    private final List<int[]> events = new ArrayList<>();
    private final List<int[]> seen = new ArrayList<>();
    private final Object[] sheets = new Object[4];
    private int finding = 0;

    /** What a summer leaves behind. */
    private static final class Story {
        final List<List<List<Integer>>> behind = new ArrayList<>();
        final int[] water = new int[24];
        final Map<Integer, Integer> has = new HashMap<>();
        int shorts;
        boolean[] isShort;
    }

    // ---- texts

    private static boolean columnsAreWell(String text) {
        return text.matches("[1-9]{0,6}(;[1-9]{0,6}){0,5}");
    }

    private static boolean ordersMayGoOn(String text) {
        return text.matches("([a-x][1-9];){0,11}([a-x][1-9]?)?") || text.matches("([a-x][1-9];){0,11}[a-x][1-9];?") && text.length() < 36;
    }

    private static boolean ordersAreWell(String text) {
        return text.isEmpty() || text.matches("[a-x][1-9](;[a-x][1-9]){0,11}");
    }

    private List<List<Integer>> blocks() {
        List<List<Integer>> columns = new ArrayList<>();
        for (int c = 0; c < 6; c++) columns.add(new ArrayList<>());
        if (fault(0) != -1) return columns;
        String[] parts = texts[0].toString().split(";", -1);
        for (int c = 0; c < parts.length; c++)
            for (char figure : parts[c].toCharArray()) columns.get(c).add(figure - '0');
        return columns;
    }

    private List<int[]> orders() {
        List<int[]> orders = new ArrayList<>();
        if (fault(1) != -1 || texts[1].length() == 0) return orders;
        for (String part : texts[1].toString().split(";"))
            orders.add(new int[] {part.charAt(0) - 'a', part.charAt(1) - '0'});
        return orders;
    }

    // ---- a summer

    private static boolean anyEvent(List<int[]> events, int kind, int week) {
        return events.stream().anyMatch(e -> e[0] == kind && e[1] == week);
    }

    private static boolean hasStraw(List<int[]> events, int column, int week) {
        return events.stream().anyMatch(e -> e[0] == 2 && e[1] <= week && e[2] == column);
    }

    private static boolean stands(List<List<Integer>> columns, int column, int height) {
        return column < 0 || column > 5 || columns.get(column).size() > height;
    }

    private static Story live(List<List<Integer>> start, List<int[]> orders, List<int[]> events) {
        Story story = new Story();
        story.isShort = new boolean[orders.size()];
        List<List<Integer>> columns = deep(start);
        for (int week = 0; week < 24; week++) {
            for (int o = 0; o < orders.size(); o++) {
                if (orders.get(o)[0] != week) continue;
                int has = 0;
                while (has < orders.get(o)[1]) {
                    int best = -1;
                    for (int c = 5; c >= 0; c--)
                        if (!columns.get(c).isEmpty() && (best < 0 || top(columns, c) >= top(columns, best))) best = c;
                    if (best < 0) break;
                    has += columns.get(best).remove(columns.get(best).size() - 1);
                }
                story.has.put(o, has);
                story.isShort[o] = has < orders.get(o)[1];
                if (story.isShort[o]) story.shorts++;
            }
            List<List<Integer>> next = new ArrayList<>();
            for (int c = 0; c < 6; c++) {
                List<Integer> kept = new ArrayList<>();
                for (int h = 0; h < columns.get(c).size(); h++) {
                    boolean open = !stands(columns, c, h + 1) && !hasStraw(events, c, week);
                    int free = 0;
                    if (open) free++;
                    if (!stands(columns, c - 1, h)) free++;
                    if (!stands(columns, c + 1, h)) free++;
                    int loss = free / 2;
                    if (open && anyEvent(events, 0, week)) loss++;
                    if (free > 0 && anyEvent(events, 1, week)) loss++;
                    int was = columns.get(c).get(h);
                    if (loss >= was) {
                        story.water[week] += was;
                    } else {
                        story.water[week] += loss;
                        kept.add(was - loss);
                    }
                }
                next.add(kept);
            }
            columns = next;
            story.behind.add(deep(columns));
        }
        return story;
    }

    private static int top(List<List<Integer>> columns, int c) {
        return columns.get(c).get(columns.get(c).size() - 1);
    }

    private static List<List<Integer>> deep(List<List<Integer>> columns) {
        List<List<Integer>> copy = new ArrayList<>();
        for (List<Integer> column : columns) copy.add(new ArrayList<>(column));
        return copy;
    }

    private static int amount(List<Integer> column) {
        return column.stream().mapToInt(Integer::intValue).sum();
    }

    private static int amountOfAll(List<List<Integer>> columns) {
        return columns.stream().mapToInt(Oracle::amount).sum();
    }

    private static int iceAtLast(Story story) {
        return amountOfAll(story.behind.get(23));
    }

    private Story story() {
        return live(blocks(), orders(), events);
    }

    private List<int[]> eventsWithout(int... left) {
        List<int[]> rest = new ArrayList<>();
        for (int e = 0; e < events.size(); e++) {
            final int it = e;
            if (Arrays.stream(left).noneMatch(x -> x == it)) rest.add(events.get(e));
        }
        return rest;
    }

    private boolean comesOut(Story story) {
        return seen.stream().allMatch(s -> story.behind.get(s[0]).get(s[1]).size() == s[2]);
    }

    private static boolean in(int v, int least, int most) {
        return least <= v && v <= most;
    }

    private int find(int number) {
        finding = number;
        return -10 - number;
    }

    // ---- the face

    public int type(int text, int b) {
        if (!in(text, 0, 1) || !in(b, 0, 255)) return -2;
        if (texts[text].length() == (text == 0 ? 41 : 35)) return -4;
        return texts[text].append((char) b).length();
    }

    public int wipe(int text) {
        if (!in(text, 0, 1)) return -2;
        int had = texts[text].length();
        texts[text].setLength(0);
        return had;
    }

    public int undo(int text) {
        if (!in(text, 0, 1)) return -2;
        if (texts[text].length() == 0) return -3;
        texts[text].setLength(texts[text].length() - 1);
        return texts[text].length();
    }

    public int fault(int text) {
        if (!in(text, 0, 1)) return -2;
        String all = texts[text].toString();
        for (int n = 1; n <= all.length(); n++) {
            String begun = all.substring(0, n);
            if (!(text == 0 ? columnsAreWell(begun) : ordersMayGoOn(begun))) return n - 1;
        }
        return text == 0 || ordersAreWell(all) ? -1 : all.length();
    }

    public int told(int column, int height) {
        if (!in(column, 0, 5) || !in(height, 0, 5)) return -2;
        List<Integer> it = blocks().get(column);
        return height < it.size() ? it.get(height) : 0;
    }

    public int order(int order, int what) {
        if (!in(order, 0, orders().size() - 1) || !in(what, 0, 1)) return -2;
        return orders().get(order)[what];
    }

    public int event(int kind, int week, int number) {
        if (!in(kind, 0, 2) || !in(week, 0, 23) || !in(number, 0, 5)) return -2;
        if (events.size() == 8) return -4;
        events.add(new int[] {kind, week, number});
        return events.size();
    }

    public int back() {
        if (events.isEmpty()) return -3;
        events.remove(events.size() - 1);
        return events.size();
    }

    public int read(int s) {
        if (!in(s, 0, 3)) return -2;
        if (sheets[s] == null) return find(1);
        int came = 0;
        while (3 * came + 3 <= items(s) && event(item(s, 3 * came), item(s, 3 * came + 1), item(s, 3 * came + 2)) > 0)
            came++;
        return came;
    }

    public int column(int week, int column, int what) {
        if (!in(week, 0, 23) || !in(column, 0, 5) || !in(what, 0, 1)) return -2;
        List<Integer> it = story().behind.get(week).get(column);
        return what == 0 ? it.size() : amount(it);
    }

    public int block(int week, int column, int height) {
        if (!in(week, 0, 23) || !in(column, 0, 5) || !in(height, 0, 5)) return -2;
        List<Integer> it = story().behind.get(week).get(column);
        return height < it.size() ? it.get(height) : 0;
    }

    public int ice(int week, int what) {
        if (!in(week, 0, 23) || !in(what, 0, 1)) return -2;
        return what == 0 ? amountOfAll(story().behind.get(week)) : story().water[week];
    }

    public int got(int order, int what) {
        if (!in(order, 0, orders().size() - 1) || !in(what, 0, 1)) return -2;
        return what == 0 ? story().has.get(order) : story().isShort[order] ? 1 : 0;
    }

    public int sum(int what) {
        if (!in(what, 0, 1)) return -2;
        return what == 1 ? story().shorts : story().has.values().stream().mapToInt(Integer::intValue).sum();
    }

    public int bare(int column) {
        if (!in(column, 0, 5)) return -2;
        Story story = story();
        for (int week = 0; week < 24; week++) if (story.behind.get(week).get(column).isEmpty()) return week;
        return -1;
    }

    public int last() {
        Story story = story();
        for (int week = 0; week < 24; week++) if (amountOfAll(story.behind.get(week)) == 0) return week;
        return -1;
    }

    public int tall() {
        List<List<Integer>> end = story().behind.get(23);
        int most = end.stream().mapToInt(List::size).max().getAsInt();
        for (int c = 0; c < 6; c++) if (end.get(c).size() == most) return c;
        return -99;
    }

    public int drain(int what) {
        if (!in(what, 0, 1)) return -2;
        int[] water = story().water;
        int most = Arrays.stream(water).max().getAsInt();
        if (what == 1) return most;
        for (int week = 0; week < 24; week++) if (water[week] == most) return week;
        return -99;
    }

    public int cover(int what) {
        if (!in(what, 0, 1)) return -2;
        int[] best = {99, -1};
        for (int c = 5; c >= 0; c--) {
            List<int[]> more = new ArrayList<>(events);
            more.add(new int[] {2, 0, c});
            int ice = iceAtLast(live(blocks(), orders(), more));
            if (ice >= best[1]) best = new int[] {c, ice};
        }
        return best[what];
    }

    public int swap(int what) {
        if (!in(what, 0, 2)) return -2;
        int[] best = {99, 99, -1};
        for (int a = 5; a >= 0; a--)
            for (int b = 5; b > a; b--) {
                List<List<Integer>> changed = blocks();
                changed.set(a, changed.set(b, changed.get(a)));
                int ice = iceAtLast(live(changed, orders(), events));
                if (ice >= best[2]) best = new int[] {a, b, ice};
            }
        return best[what];
    }

    public int later(int order, int what) {
        if (!in(order, 0, orders().size() - 1) || !in(what, 0, 1)) return -2;
        int[] best = {99, 99};
        for (int week = 23; week >= 0; week--) {
            List<int[]> moved = orders();
            moved.get(order)[0] = week;
            int shorts = live(blocks(), moved, events).shorts;
            if (shorts <= best[1]) best = new int[] {week, shorts};
        }
        return best[what];
    }

    public int spare(int i) {
        if (!in(i, -1, 1)) return -2;
        List<int[]> rows = new ArrayList<>();
        rows.add(new int[] {});
        for (int a = 0; a < events.size(); a++) rows.add(new int[] {a});
        for (int a = 0; a < events.size(); a++)
            for (int b = a + 1; b < events.size(); b++) rows.add(new int[] {a, b});
        for (int[] row : rows)
            if (live(blocks(), orders(), eventsWithout(row)).shorts == 0)
                return i == -1 ? row.length : i < row.length ? row[i] : -1;
        return -1;
    }

    public int seen(int week, int column, int high) {
        if (!in(week, 0, 23) || !in(column, 0, 5) || !in(high, 0, 6)) return -2;
        if (seen.size() == 8) return -4;
        seen.add(new int[] {week, column, high});
        return seen.size();
    }

    public int forget() {
        int had = seen.size();
        seen.clear();
        return had;
    }

    public int never() {
        int bits = 0;
        for (int e = 0; e < events.size(); e++)
            if (comesOut(live(blocks(), orders(), eventsWithout(e)))) bits += 1 << e;
        return bits;
    }

    private Map<Integer, Story> sizes(int column, int height) {
        Map<Integer, Story> fitting = new HashMap<>();
        for (int v = 1; v <= 9; v++) {
            List<List<Integer>> changed = blocks();
            changed.get(column).set(height, v);
            Story story = live(changed, orders(), events);
            if (comesOut(story)) fitting.put(v, story);
        }
        return fitting;
    }

    public int size(int column, int height) {
        if (told(column, height) <= 0) return -2;
        return sizes(column, height).keySet().stream().mapToInt(v -> 1 << v).sum();
    }

    public int ask(int column, int height) {
        if (told(column, height) <= 0) return -2;
        Map<Integer, Story> sizes = sizes(column, height);
        int best = -99, least = 99;
        for (int week = 0; week < 24; week++) {
            Map<List<Integer>, Integer> groups = new HashMap<>();
            for (Story story : sizes.values())
                groups.merge(story.behind.get(week).stream().map(List::size).toList(), 1, Integer::sum);
            int greatest = groups.values().stream().mapToInt(Integer::intValue).max().orElse(0);
            if (greatest < least) {
                least = greatest;
                best = week;
            }
        }
        return best;
    }

    public long chance(int c, int order, int what) {
        if (!in(c, 0, 16) || !in(order, 0, orders().size() - 1) || !in(what, 0, 1)) return Long.MIN_VALUE + 2;
        BigInteger above = BigInteger.ZERO, below = BigInteger.valueOf(16).pow(events.size());
        for (int set = 0; set < 1 << events.size(); set++) {
            List<int[]> some = new ArrayList<>();
            for (int e = 0; e < events.size(); e++) if ((set >> e) % 2 == 1) some.add(events.get(e));
            if (live(blocks(), orders(), some).isShort[order])
                above = above.add(BigInteger.valueOf(c).pow(some.size())
                    .multiply(BigInteger.valueOf(16 - c).pow(events.size() - some.size())));
        }
        BigInteger both = above.gcd(below);
        return (what == 0 ? above : below).divide(both).longValueExact();
    }

    public int summers(int seed, int n, int what) {
        if (!in(n, 0, 8) || !in(what, 0, 1)) return -2;
        int[] lots = new int[3 * n];
        int[] of = {3, 24, 6};
        BigInteger state = BigInteger.valueOf(seed);
        for (int k = 0; k < lots.length; k++) {
            state = BigInteger.valueOf(state.multiply(BigInteger.valueOf(1103515245)).add(BigInteger.valueOf(12345)).intValue());
            lots[k] = (int) ((state.longValue() & 0xFFFFFFFFL) / 65536 % of[k % 3]);
        }
        List<int[]> drawn = new ArrayList<>();
        for (int e = 0; e < n; e++) drawn.add(Arrays.copyOfRange(lots, 3 * e, 3 * e + 3));
        Story story = live(blocks(), orders(), drawn);
        return what == 0 ? iceAtLast(story) : story.shorts;
    }

    // ---- sheets

    private int items(int s) {
        return java.lang.reflect.Array.getLength(sheets[s]);
    }

    private int item(int s, int i) {
        return java.lang.reflect.Array.getInt(sheets[s], i);
    }

    private static int formOf(Object row) {
        return row instanceof byte[] ? 0 : row instanceof short[] ? 1 : 2;
    }

    private void put(int s, int i, int v) {
        if (sheets[s] instanceof byte[] row) row[i] = (byte) v;
        else if (sheets[s] instanceof short[] row) row[i] = (short) v;
        else if (sheets[s] instanceof int[] row) row[i] = v;
    }

    public int sheet(int s, int form, int n) {
        if (!in(s, 0, 3) || !in(form, 0, 2) || n > 60) return -2;
        if (n < 0) return find(5);
        sheets[s] = form == 0 ? new byte[n] : form == 1 ? new short[n] : new int[n];
        return n;
    }

    public int lose(int s) {
        if (!in(s, 0, 3)) return -2;
        if (sheets[s] == null) return find(1);
        int had = items(s);
        sheets[s] = null;
        return had;
    }

    public int lay(int s, int form, int i, int v) {
        if (!in(s, 0, 3) || !in(form, 0, 2)) return -2;
        if (sheets[s] == null) return find(1);
        if (formOf(sheets[s]) != form) return find(3);
        if (!in(i, 0, items(s) - 1)) return find(2);
        put(s, i, v);
        return 1;
    }

    public int get(int s, int form, int i) {
        if (!in(s, 0, 3) || !in(form, 0, 2)) return Integer.MIN_VALUE;
        if (sheets[s] == null) finding = 1;
        else if (formOf(sheets[s]) != form) finding = 3;
        else if (!in(i, 0, items(s) - 1)) finding = 2;
        else return item(s, i);
        return Integer.MIN_VALUE;
    }

    public int copy(int s, int i, int t, int j, int n) {
        if (!in(s, 0, 3) || !in(t, 0, 3)) return -2;
        if (sheets[s] == null || sheets[t] == null) return find(1);
        if (sheets[s].getClass() != sheets[t].getClass()) return find(4);
        if (i < 0 || j < 0 || n < 0 || (long) i + n > items(s) || (long) j + n > items(t)) return find(2);
        int[] held = new int[n];
        for (int k = 0; k < n; k++) held[k] = item(s, i + k);
        for (int k = 0; k < n; k++) put(t, j + k, held[k]);
        return 1;
    }

    public int write(int column, int s) {
        if (!in(column, 0, 5) || !in(s, 0, 3)) return -2;
        if (sheets[s] == null) return find(1);
        int n = Math.min(24, items(s));
        for (int week = 0; week < n; week++) put(s, week, column(week, column, 1));
        return n;
    }

    public int count(int what) {
        return switch (what) {
            case 0 -> blocks().stream().mapToInt(List::size).sum();
            case 1 -> orders().size();
            case 2, 3 -> texts[what - 2].length();
            case 4 -> events.size();
            case 5 -> iceAtLast(story());
            case 6 -> story().shorts;
            case 7 -> seen.size();
            case 8 -> finding;
            default -> -2;
        };
    }

    public long digest() {
        List<Long> row = new ArrayList<>();
        for (int what = 0; what < 8; what++) row.add((long) count(what));
        add(row, fault(0), fault(1));
        for (int week = 0; week < 24; week++) add(row, ice(week, 0), ice(week, 1));
        for (int c = 0; c < 6; c++) {
            add(row, bare(c));
            for (int h = 0; h < 6; h++) {
                add(row, told(c, h), block(4, c, h));
                if (told(c, h) > 0) add(row, size(c, h), ask(c, h));
            }
            add(row, column(11, c, 0), column(11, c, 1));
        }
        for (int o = 0; o < orders().size(); o++) {
            add(row, order(o, 0), order(o, 1), got(o, 0), got(o, 1), later(o, 0), later(o, 1));
            add(row, chance(5, o, 0), chance(5, o, 1));
        }
        add(row, sum(0), sum(1), last(), tall(), drain(0), drain(1), cover(0), cover(1));
        add(row, swap(0), swap(1), swap(2), spare(-1), spare(0), never(), summers(7, 6, 0), summers(7, 6, 1));
        long h = 17;
        for (long value : row) h = 31 * h + value;
        return h;
    }

    private static void add(List<Long> row, long... values) {
        for (long value : values) row.add(value);
    }
}
