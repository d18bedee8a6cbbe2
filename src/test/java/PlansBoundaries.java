import java.util.Arrays;

/** Boundary cases of plans, of what was seen, of chances and summers (promises 20 to 30, and their terms). */
final class PlansBoundaries extends Boundaries {
    private static final long BAD_LONG = Long.MIN_VALUE + 2;

    static void run() {
        coverMost(); swapMost(); waitFewest(); spareFewest();
        cover(); coverRefused(); swap(); swapRefused(); later(); laterRefused(); spare(); spareRefused();
        seenAtMost(); neverAlone(); sizesAsBits(); askLeast(); chanceOfEach(); fractions(); summersOfLots(); lots();
        seen(); seenBad(); seenFull(); forget(); never(); size(); sizeRefused(); ask(); askRefused();
        chance(); chanceRefused(); summers(); summersRefused();
    }

    // ---- plans

    private static void coverMost() {
        sentence(TERMS, "COVER: the COLUMN on which STRAW had better lie from WEEK 0 on, besides, by which there is "
            + "most ICE behind WEEK 23, of like ones the least: which; how much.");
        cover(tale(""), 0, 0);
        cover(tale("9"), 0, 9);
        cover(tale(";;;;;9"), 5, 9);
        cover(tale("9;;;;;9"), 0, 9);
        cover(tale("9;;;;;9", straw(0, 0)), 5, 18);
        cover(tale("8;;;;;9"), 5, 9);
        // there is straw already, but not from week 0 on
        cover(tale("9", straw(5, 0)), 0, 9);
        // with it on already, all are alike
        cover(tale(";;;;;9", straw(0, 5)), 0, 9);
        // eight events are told, and it comes besides them
        int[][] eight = new int[8][];
        Arrays.fill(eight, straw(0, 0));
        Tale x = tale("9;;;;;9", eight);
        cover(x, 5, 18);
        x.due(8, "count", 4);
        // most behind week 23, not behind one ahead of it
        cover(tale("9;;;;;5", "x9"), 0, 0);
    }

    private static void cover(Tale x, int which, int much) {
        x.due(which, "cover", 0);
        x.due(much, "cover", 1);
    }

    private static void swapMost() {
        sentence(TERMS, "SWAP: the two COLUMNS (the first less) of which all BLOCKS had better change places at first "
            + "(EVENTS as told), by which there is most ICE behind WEEK 23, of like ones the least row: the first; "
            + "the other one; how much.");
        swap(tale(""), 0, 1, 0);
        swap(tale("9"), 0, 1, 0);
        swap(tale(";;;;9", straw(0, 5)), 4, 5, 9);
        swap(tale("9", straw(0, 5)), 0, 5, 9);
        swap(tale(";;;;;9", straw(0, 0)), 0, 5, 9);
        swap(tale(";;9", straw(0, 5), straw(0, 0)), 0, 2, 9);
        swap(tale(";;;;;123456", straw(0, 0)), 0, 5, 21);
        // two must change though they had better stay: two bare ones do
        swap(tale("9", straw(0, 0)), 1, 2, 9);
        // straw from week 3 on lies where it was told, and so do the weeks ahead of it
        swap(tale("9", straw(3, 5)), 0, 5, 6);
        // most behind week 23, not behind one ahead of it
        swap(tale(";;;;;9", "x9", straw(0, 0)), 0, 1, 0);
        Tale x = tale("12;;;;;345", straw(0, 0));
        swap(x, 0, 5, 12);
        x.due(1, "told", 0, 0);
        x.due(5, "told", 5, 2);
    }

    private static void swap(Tale x, int first, int other, int much) {
        x.due(first, "swap", 0);
        x.due(other, "swap", 1);
        x.due(much, "swap", 2);
    }

    private static void waitFewest() {
        sentence(TERMS, "WAIT of an ORDER: the WEEK, in place of its own, by which fewest are SHORT, of like ones the least: "
            + "which; how many.");
        // a1 takes the 9, unless it comes behind x9 in the very last week
        Tale last = tale("9;1", "x9;a1", straw(0, 0), straw(0, 1));
        last.due(1, "sum", 1);
        later(last, 1, 23, 0);
        // its own week is one of them
        later(tale("9;1", "x9;x1", straw(0, 0), straw(0, 1)), 1, 23, 0);
        // told ahead of x9, it comes ahead of it in that week too: all weeks are alike
        later(tale("9;1", "a1;x9", straw(0, 0), straw(0, 1)), 0, 0, 1);
        // in week 0 alone is there enough
        later(tale("9", "x9"), 0, 0, 0);
        later(tale("9", "x8"), 0, 0, 0);
        // till week 5 the other takes it all, from then on this one has the rest
        later(tale("9;2", "f9;a2", straw(0, 0), straw(0, 1)), 1, 5, 0);
        later(tale("", TWELVE), 0, 0, 12);
        later(tale("", TWELVE), 11, 0, 12);
        Tale x = tale(SIX_BY_SIX, TWELVE);
        later(x, 11, 0, 0);
        x.due(23, "order", 11, 0);
    }

    private static void later(Tale x, int order, int week, int howMany) {
        x.due(week, "later", order, 0);
        x.due(howMany, "later", order, 1);
    }

    private static void spareFewest() {
        sentence(TERMS, "SPARE: the fewest EVENTS (0 to 2) that had better not be, so that no ORDER is SHORT, "
            + "of like ones the least row (each more than the one ahead): how many; the i-th; NONE.");
        spare(tale(""), 0, NONE, NONE);
        spare(tale("9", "a9"), 0, NONE, NONE);
        spare(tale("9", "a9", thaw(0)), 0, NONE, NONE);
        spare(tale("9", "b8", thaw(0)), 1, 0, NONE);
        spare(tale("9", "b8", thaw(5), thaw(6), thaw(7), thaw(8), thaw(9), thaw(10), thaw(11), door(0)), 1, 7, NONE);
        spare(tale("9", "b8", thaw(5), thaw(6), thaw(7), thaw(8), thaw(9), thaw(10), door(0), thaw(0)), 2, 6, 7);
        // three would have to go
        spare(tale("9", "b8", thaw(0), door(0), thaw(0)), NONE, NONE, NONE);
        spare(tale("1", "a2", thaw(0), door(0)), NONE, NONE, NONE);
        spare(tale("1", "a2"), NONE, NONE, NONE);
        // one will do, of two: the less; and one is fewer than the two that would do as well
        spare(tale("9", "b7", door(0), thaw(0)), 1, 0, NONE);
        spare(tale("9", "b7", thaw(9), thaw(0), door(0)), 1, 1, NONE);
        // 0 and 7 or 1 and 2 would do: the least row is by its first
        spare(tale("9", "b7", door(0), thaw(0), thaw(0), thaw(9), thaw(9), thaw(9), thaw(9), door(0)), 2, 0, 7);
        // any two of three would do
        spare(tale("9", "d4", thaw(0), thaw(1), thaw(2)), 1, 0, NONE);
        spare(tale("9", "d5", thaw(0), thaw(1), thaw(2)), 2, 0, 1);
        spare(tale("9", "d6", thaw(0), thaw(1), thaw(2)), NONE, NONE, NONE);
    }

    private static void spare(Tale x, int howMany, int first, int second) {
        x.due(howMany, "spare", NONE);
        x.due(first, "spare", 0);
        x.due(second, "spare", 1);
    }

    private static Tale rich() {
        return tale("9;99;1", TWELVE, thaw(3), straw(5, 2));
    }

    private static void cover() {
        sentence(20, "COVER: which (what = 0), how much (1).");
        cover(tale(""), 0, 0);
        cover(tale(";;;;;9"), 5, 9);
        cover(tale("9", "x9", straw(0, 0)), 0, 0);
        cover(tale(SIX_BY_SIX), 0, 324);
    }

    private static void coverRefused() {
        sentence(20, "BAD.");
        edges(PlansBoundaries::rich, BAD, "cover", range(0, 1));
    }

    private static void swap() {
        sentence(21, "SWAP: the first (what = 0), the other one (1), how much (2).");
        swap(tale(""), 0, 1, 0);
        swap(tale(";;;;9", straw(0, 5)), 4, 5, 9);
        swap(tale(SIX_BY_SIX), 0, 1, 324);
    }

    private static void swapRefused() {
        sentence(21, "BAD.");
        edges(PlansBoundaries::rich, BAD, "swap", range(0, 2));
    }

    private static void later() {
        sentence(22, "WAIT: which (what = 0), how many (1).");
        later(tale("9", "x9"), 0, 0, 0);
        later(tale("", "x1"), 0, 0, 1);
        later(tale("9;1", "x9;x1", straw(0, 0), straw(0, 1)), 1, 23, 0);
    }

    private static void laterRefused() {
        sentence(22, "BAD.");
        edges(PlansBoundaries::rich, BAD, "later", range(0, 11), range(0, 1));
        edges(() -> tale("9", "a1"), BAD, "later", range(0, 0), range(0, 1));
        for (int order : new int[] {-1, 0, 1}) tale("9").due(BAD, "later", order, 0);
    }

    private static void spare() {
        sentence(23, "SPARE: how many (i = NONE), the i-th (0, 1; NONE); NONE.");
        spare(tale("9", "b8"), 0, NONE, NONE);
        spare(tale("9", "b8", door(0)), 1, 0, NONE);
        spare(tale("9", "b8", door(0), thaw(0)), 2, 0, 1);
        spare(tale("9", "b8", door(0), thaw(0), thaw(0)), NONE, NONE, NONE);
    }

    private static void spareRefused() {
        sentence(23, "BAD.");
        edges(PlansBoundaries::rich, BAD, "spare", range(NONE, 1));
    }

    // ---- seen

    private static void seenAtMost() {
        sentence(TERMS, "SEEN, 8 at most: behind a WEEK a COLUMN was so high (0 to 6).");
        Tale x = tale("111111", straw(0, 0));
        x.due(1, "seen", 0, 0, 6);
        x.due(1022, "size", 0, 5);
        x.due(2, "seen", 23, 5, 0);
        x.due(1022, "size", 0, 5);
        for (int n = 3; n <= 8; n++) x.due(n, "seen", 23, 0, 6);
        x.due(1022, "size", 0, 5);
        x.due(FULL, "seen", 0, 0, 0);
        x.due(8, "count", 7);
        x.due(1022, "size", 0, 5);
        // so high is neither higher nor lower
        for (int high : new int[] {0, 5}) {
            Tale y = tale("111111", straw(0, 0));
            y.call("seen", 23, 0, high);
            y.due(0, "size", 0, 5);
        }
        Tale bare = tale("1");
        bare.call("seen", 5, 5, 1);
        bare.due(0, "size", 0, 0);
    }

    private static void neverAlone() {
        sentence(TERMS, "NEVER: EVENTS each of which, had it alone not been, makes all that was SEEN come out so, as bits.");
        Tale none = tale("9");
        none.due(0, "never");
        Tale eight = tale("9", thaw(1), thaw(2), thaw(3), thaw(4), thaw(5), thaw(6), thaw(7), straw(0, 0));
        eight.due(255, "never");
        // seven thaws of nine: without the straw it is bare behind week 4
        eight.call("seen", 4, 0, 0);
        eight.due(128, "never");
        eight.call("seen", 3, 0, 1);
        eight.due(128, "never");
        eight.call("seen", 3, 0, 0);
        eight.due(0, "never");
        Tale first = tale("2", thaw(0), door(20));
        first.call("seen", 0, 0, 1);
        first.due(1, "never");
        // as it was told, it comes out so; but each alone left out, it doesn't
        Tale both = tale("3", thaw(0), door(0));
        both.call("seen", 0, 0, 0);
        both.due(0, "never");
        // two would have to go, and alone neither will do
        Tale two = tale("2", thaw(0), thaw(0));
        two.call("seen", 0, 0, 1);
        two.due(0, "never");
    }

    private static void sizesAsBits() {
        sentence(TERMS, "SIZE of a BLOCK as told (a COLUMN, a height; of one that there is): 1 to 9, in place of its own, "
            + "likewise, as bits (bit 1 on).");
        Tale x = tale("5");
        x.due(1022, "size", 0, 0);
        x.call("seen", 0, 0, 0);
        x.due(2, "size", 0, 0);
        x.call("forget");
        x.call("seen", 7, 0, 1);
        x.due(512, "size", 0, 0);
        x.call("seen", 8, 0, 0);
        x.due(512, "size", 0, 0);
        x.call("seen", 8, 0, 1);
        x.due(0, "size", 0, 0);
        // its own is one of them
        Tale own = tale("5");
        own.call("seen", 3, 0, 1);
        own.call("seen", 4, 0, 0);
        own.due(32, "size", 0, 0);
        // the sixth of the last column, of which one may be gone
        Tale last = tale(";;;;;999995");
        last.call("seen", 3, 5, 6);
        last.call("seen", 4, 5, 5);
        last.due(32, "size", 5, 5);
        last.due(1022, "size", 5, 4);
        last.due(5, "told", 5, 5);
        // orders are told as they are: with less than the 7 they take the ground too
        Tale ordered = tale("97", "a7", straw(0, 0));
        ordered.call("seen", 0, 0, 0);
        ordered.due(126, "size", 0, 1);
    }

    private static void askLeast() {
        sentence(TERMS, "ASK of such a BLOCK: the WEEK behind which the greatest number of those of SIZE by which all COLUMNS "
            + "are as high is least, of like ones the least.");
        // behind week 3 it is four and five, behind week 4 five and four
        tale("5").due(3, "ask", 0, 0);
        tale(";;;;;5").due(3, "ask", 5, 0);
        // the thaw of the last week alone tells the 1 from the others
        tale("5", straw(0, 0), thaw(23)).due(23, "ask", 0, 0);
        tale("5", straw(0, 0), thaw(0)).due(0, "ask", 0, 0);
        tale("5", straw(0, 0)).due(0, "ask", 0, 0);
        // one alone of SIZE, and none
        Tale x = tale("5");
        x.call("seen", 0, 0, 0);
        x.due(0, "ask", 0, 0);
        x.call("seen", 0, 0, 1);
        x.due(0, "ask", 0, 0);
        // of 8 and 9, the week behind which they differ
        Tale two = tale("5");
        two.call("seen", 6, 0, 1);
        two.due(7, "ask", 0, 0);
        // another column may tell: the greater is taken by the order, and the other stands
        Tale other = tale("5;;;;;5", "c1", straw(0, 0), straw(0, 5));
        other.due(2, "ask", 5, 0);
    }

    private static void chanceOfEach() {
        sentence(TERMS, "CHANCE: each of EVENTS is by c sixteenths (0 to 16), by itself: the chance that an ORDER is SHORT: "
            + "a FRACTION.");
        chance(tale("9", "a9"), 8, 0, 0, 1);
        chance(tale("", "a9"), 0, 0, 1, 1);
        chance(tale("", "a9"), 16, 0, 1, 1);
        Tale one = tale("9", "b8", door(0));
        chance(one, 0, 0, 0, 1);
        chance(one, 1, 0, 1, 16);
        chance(one, 15, 0, 15, 16);
        chance(one, 16, 0, 1, 1);
        // by itself: two that do the same, and two that must both be
        chance(tale("9", "b8", door(0), door(0)), 4, 0, 7, 16);
        chance(tale("9", "b7", door(0), thaw(0)), 4, 0, 1, 16);
        // straw may make it less likely
        chance(tale("9", "b9", straw(0, 0)), 1, 0, 15, 16);
        Tale eight = tale("9", "b8", door(0), door(0), door(0), door(0), door(0), door(0), door(0), thaw(0));
        chance(eight, 1, 0, 1732076671L, 4294967296L);
        chance(eight, 15, 0, 4294967295L, 4294967296L);
        chance(eight, 0, 0, 0, 1);
        chance(eight, 16, 0, 1, 1);
        // the twelfth order: the others take eleven of the twelve
        Tale twelfth = tale("899999;999999", "a9;a9;a9;a9;a9;a9;a9;a9;a9;a9;a9;b8", straw(0, 0));
        chance(twelfth, 4, 10, 0, 1);
        chance(twelfth, 4, 11, 3, 4);
    }

    private static void chance(Tale x, int c, int order, long above, long below) {
        x.due(above, "chance", c, order, 0);
        x.due(below, "chance", c, order, 1);
    }

    private static void fractions() {
        sentence(TERMS, "FRACTIONS are told in lowest terms, above and below (0 by 1).");
        Tale x = tale("9", "b8", door(0));
        chance(x, 0, 0, 0, 1);
        chance(x, 2, 0, 1, 8);
        chance(x, 3, 0, 3, 16);
        chance(x, 8, 0, 1, 2);
        chance(x, 12, 0, 3, 4);
        chance(x, 16, 0, 1, 1);
        // with eight events: 2 to the 32nd below, cut to 1 by 256
        Tale eight = tale("9", "b8", door(0), thaw(9), thaw(9), thaw(9), thaw(9), thaw(9), thaw(9), thaw(9));
        chance(eight, 8, 0, 1, 2);
        chance(eight, 0, 0, 0, 1);
    }

    private static int[][] lotsBy(int seed, int n) {
        long state = seed & 0xFFFFFFFFL;
        int[] of = {3, 24, 6};
        int[][] events = new int[n][3];
        for (int k = 0; k < 3 * n; k++) {
            // the last 32 bits are what is left of it, as ints wrap; two factors below 2 to the 32nd overrun a long, but alike
            state = 1103515245L * state + 12345L & 0xFFFFFFFFL;
            events[k / 3][k % 3] = (int) (state / 65536L % of[k % 3]);
        }
        return events;
    }

    private static void sameAsDrawn(String blocks, String orders, int seed, int n) {
        Tale drawn = tale(blocks, orders, lotsBy(seed, n));
        Tale x = tale(blocks, orders, door(0), straw(0, 0));
        x.due(drawn.call("count", 5), "summers", seed, n, 0);
        x.due(drawn.call("count", 6), "summers", seed, n, 1);
        x.due(2, "count", 4);
    }

    private static void summersOfLots() {
        sentence(TERMS, "SUMMERS by a SEED: n EVENTS (0 to 8), in place of those told: of each a LOT of 3 (its kind), "
            + "a LOT of 24 (its WEEK), a LOT of 6 (its number): ICE behind WEEK 23; how many are SHORT.");
        Tale none = tale("9", "x9", straw(0, 0));
        none.due(0, "sum", 1);
        none.due(1, "summers", 7, 0, 1);
        none.due(0, "summers", 7, 0, 0);
        for (int n = 0; n <= 8; n++)
            for (int seed = 1; seed <= 20; seed++) sameAsDrawn("99;9;99;999;9;9", "e9;x9;x9;x9", seed, n);
    }

    private static void lots() {
        sentence(TERMS, "LOTS of m: SEED becomes 1103515245 SEED and 12345, as ints that wrap; its upper 16 bits as a number "
            + "from 0 on, modulo m.");
        for (int seed : new int[] {LEAST, LEAST + 1, MOST - 1, MOST, -1, 0, 1, -484, 65535, 65536, -65536})
            for (int n : new int[] {1, 2, 5, 8}) sameAsDrawn("999;99;9;9999;99;9", "f9;k9;p9;x9", seed, n);
        // 0 becomes 12345, whose upper bits are 0: a door; the next lot is week 20, in which a 1 more melts
        tale("9999").due(36 - 24 - 1, "summers", 0, 1, 0);
        look(Arrays.equals(lotsBy(0, 1)[0], new int[] {DOOR, 20, 0}), "the lots of the test itself", new Tale());
    }

    private static void seen() {
        sentence(24, "SEEN more: how many.");
        Tale x = new Tale();
        for (int n = 1; n <= 8; n++) x.due(n, "seen", n % 2 * 23, n % 2 * 5, n % 2 * 6);
        x.due(8, "count", 7);
    }

    private static void seenBad() {
        sentence(24, "BAD;");
        edges(Tale::new, BAD, "seen", range(0, 23), range(0, 5), range(0, 6));
    }

    private static void seenFull() {
        sentence(24, "FULL.");
        Tale x = tale("5");
        for (int n = 1; n <= 8; n++) x.call("seen", 0, 0, 1);
        x.due(FULL, "seen", 0, 0, 0);
        x.due(8, "count", 7);
        x.due(1020, "size", 0, 0);
        x.call("forget");
        x.due(1, "seen", 0, 0, 0);
    }

    private static void forget() {
        sentence(25, "All SEEN are forgotten: how many.");
        Tale x = tale("5");
        x.due(0, "forget");
        for (int n = 1; n <= 8; n++) x.call("seen", 0, 0, 6);
        x.due(0, "size", 0, 0);
        x.due(8, "forget");
        x.due(0, "count", 7);
        x.due(1022, "size", 0, 0);
        x.due(0, "forget");
    }

    private static void never() {
        sentence(26, "NEVER, as bits.");
        tale("9").due(0, "never");
        Tale x = tale("2", thaw(0), thaw(9), thaw(9), thaw(9), thaw(9), thaw(9), thaw(9), thaw(9));
        x.due(255, "never");
        x.call("seen", 0, 0, 1);
        x.due(1, "never");
        x.call("forget");
        x.call("seen", 0, 0, 0);
        x.due(254, "never");
    }

    private static void size() {
        sentence(27, "SIZE, as bits.");
        Tale x = tale("5");
        x.due(1022, "size", 0, 0);
        x.call("seen", 23, 0, 1);
        x.due(0, "size", 0, 0);
    }

    private static Tale someBlocks() {
        return tale("123456;;1;;;999999");
    }

    private static void noSuchBlock(String name) {
        edges(PlansBoundaries::someBlocks, BAD, name, range(0, 0), range(0, 5));
        for (int[] place : new int[][] {{2, 0}, {5, 0}, {5, 5}}) someBlocks().notDue(BAD, name, place);
        for (int[] place : new int[][] {{2, 1}, {1, 0}, {4, 0}, {4, 5}, {6, 0}, {5, 6}, {5, -1}}) someBlocks().due(BAD, name, place);
        new Tale().due(BAD, name, 0, 0);
        // it counts as told, though it was taken at once or there is a fault no more
        Tale x = tale("9", "a9");
        x.notDue(BAD, name, 0, 0);
        x.type(0, "x");
        x.due(BAD, name, 0, 0);
        x.call("undo", 0);
        x.notDue(BAD, name, 0, 0);
    }

    private static void sizeRefused() {
        sentence(27, "BAD: COLUMN, height, no such BLOCK as told.");
        noSuchBlock("size");
    }

    private static void ask() {
        sentence(28, "ASK.");
        tale("5").due(3, "ask", 0, 0);
        tale("5", straw(0, 0)).due(0, "ask", 0, 0);
        tale("5", straw(0, 0), thaw(23)).due(23, "ask", 0, 0);
    }

    private static void askRefused() {
        sentence(28, "BAD (likewise).");
        noSuchBlock("ask");
    }

    private static void chance() {
        sentence(29, "CHANCE: above, below.");
        chance(tale("9", "b8", door(0)), 4, 0, 1, 4);
        chance(tale("9", "b8"), 4, 0, 0, 1);
    }

    private static void chanceRefused() {
        sentence(29, "BAD. (As the least long.)");
        edges(() -> tale("9", "a1;b9"), BAD_LONG, "chance", range(0, 16), range(0, 1), range(0, 1));
        edges(() -> tale("9", TWELVE), BAD_LONG, "chance", range(0, 16), range(0, 11), range(0, 1));
        for (int order : new int[] {-1, 0, 1}) tale("9").due(BAD_LONG, "chance", 0, order, 0);
    }

    private static void summers() {
        sentence(30, "SUMMERS: ICE (what = 0), how many are SHORT (1).");
        Tale x = tale("9", "x9", straw(0, 0));
        for (int seed : new int[] {LEAST, 0, MOST}) {
            x.due(0, "summers", seed, 0, 0);
            x.due(1, "summers", seed, 0, 1);
        }
        tale(SIX_BY_SIX, TWELVE).due(0, "summers", 1, 0, 1);
        tale("", TWELVE).due(12, "summers", 1, 8, 1);
    }

    private static void summersRefused() {
        sentence(30, "BAD.");
        edges(PlansBoundaries::rich, BAD, "summers", range(LEAST, MOST), range(0, 8), range(0, 1));
    }
}
