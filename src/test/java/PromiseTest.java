/** The promises one by one, on small houses whose answers can be worked out by hand. */
public final class PromiseTest {
    private static final int NONE = -1, BAD = -2, NOT = -3, FULL = -4;
    private static final int NULL = -11, INDEX = -12, CAST = -13, STORE = -14, SIZE = -15;
    private static final int LEAST = Integer.MIN_VALUE, MOST = Integer.MAX_VALUE;
    private static final int DOOR = 0, THAW = 1, STRAW = 2;
    private static int wrong = 0;
    private static int promise = 0;

    private static void due(String what, long got, long want) {
        if (got != want) {
            wrong++;
            System.out.println("promise " + promise + ": " + what + " answered " + got + ", due is " + want);
        }
    }

    private static IceHouse house(String blocks, String orders) {
        IceHouse x = new IceHouse();
        typeAll(x, 0, blocks);
        typeAll(x, 1, orders);
        return x;
    }

    private static void typeAll(IceHouse x, int text, String bytes) {
        for (char b : bytes.toCharArray()) x.type(text, b);
    }

    public static void main(String[] args) {
        newObject(); typed(); wiped(); undone(); faults(); toldBlocks(); toldOrders(); events(); eventsBack(); readings();
        columns(); blocks(); ices(); gots(); sums(); bares(); lasts(); talls(); drains();
        covers(); swaps(); waits(); spares();
        seens(); forgets(); nevers(); sizes(); asks(); chances(); summersBySeed();
        sheets(); losses(); lays(); gets(); copies(); writes(); counts(); digests();
        refusalsChangeNothing(); manyCalls();
        System.out.println(wrong == 0 ? "all promises hold" : wrong + " answers are not as due");
        if (wrong != 0) System.exit(1);
    }

    private static void newObject() {
        promise = 1;
        IceHouse x = new IceHouse();
        for (int what = 0; what <= 8; what++) due("count " + what, x.count(what), 0);
        for (int s = 0; s < 4; s++) due("sheet " + s + " is lost", x.lose(s), NULL);
        for (int c = 0; c < 6; c++) due("bare", x.bare(c), 0);
    }

    private static void typed() {
        promise = 2;
        IceHouse x = new IceHouse();
        for (int n = 1; n <= 41; n++) due("type", x.type(0, n == 1 ? 255 : 0), n);
        due("a full text", x.type(0, '1'), FULL);
        due("full, but no such byte", x.type(0, 256), BAD);
        for (int n = 1; n <= 35; n++) due("type", x.type(1, 'a'), n);
        due("a full text", x.type(1, '1'), FULL);
        due("no such text", x.type(2, 'a'), BAD);
        due("no such text", x.type(-1, 'a'), BAD);
        due("no such byte", x.type(0, -1), BAD);
        due("still full", x.count(2), 41);
        due("still full", x.count(3), 35);
    }

    private static void wiped() {
        promise = 3;
        IceHouse x = house("12;3", "a1");
        due("wipe", x.wipe(0), 4);
        due("no blocks", x.count(0), 0);
        due("the other stays", x.count(1), 1);
        due("wiped again", x.wipe(0), 0);
        due("wipe", x.wipe(1), 2);
        due("no orders", x.count(1), 0);
        due("no such text", x.wipe(2), BAD);
        due("no such text", x.wipe(-1), BAD);
    }

    private static void undone() {
        promise = 4;
        IceHouse x = house("1x", "a1;");
        due("a fault", x.fault(0), 1);
        due("undo", x.undo(0), 1);
        due("well again", x.told(0, 0), 1);
        due("undo", x.undo(0), 0);
        due("empty", x.undo(0), NOT);
        due("undo", x.undo(1), 2);
        due("an order again", x.order(0, 1), 1);
        due("no such text", x.undo(2), BAD);
        due("no such text", x.undo(-1), BAD);
    }

    private static void faultOf(int text, String bytes, int want) {
        IceHouse x = new IceHouse();
        typeAll(x, text, bytes);
        due("fault of " + bytes, x.fault(text), want);
        if (want != NONE) due("as if empty: " + bytes, x.count(text), 0);
    }

    private static void faults() {
        promise = 5;
        faultOf(0, "", NONE);
        faultOf(0, "123456;;9", NONE);
        faultOf(0, ";;;;;", NONE);
        faultOf(0, "1;", NONE);
        faultOf(0, ";;;;;;", 5);
        faultOf(0, "1234567", 6);
        faultOf(0, ";123456;1111111", 14);
        faultOf(0, "10", 1);
        faultOf(0, "1:", 1);
        faultOf(0, "a", 0);
        faultOf(0, "1;;x;x", 3);
        faultOf(0, "999999;999999;999999;999999;999999;999999", NONE);
        faultOf(1, "", NONE);
        faultOf(1, "a1;x9", NONE);
        faultOf(1, "a", 1);
        faultOf(1, "a1;", 3);
        faultOf(1, "a1;b", 4);
        faultOf(1, "y1", 0);
        faultOf(1, "A1", 0);
        faultOf(1, "`1", 0);
        faultOf(1, "a0", 1);
        faultOf(1, "a:", 1);
        faultOf(1, "a11", 2);
        faultOf(1, "a1;;", 3);
        faultOf(1, ";", 0);
        faultOf(1, "a1;a1;a1;a1;a1;a1;a1;a1;a1;a1;a1;a1", NONE);
        due("no such text", new IceHouse().fault(2), BAD);
        due("no such text", new IceHouse().fault(-1), BAD);
    }

    private static void toldBlocks() {
        promise = 6;
        IceHouse x = house("12;;345678;9", "a9");
        due("ground", x.told(0, 0), 1);
        due("on it", x.told(0, 1), 2);
        due("none", x.told(0, 2), 0);
        due("bare", x.told(1, 0), 0);
        due("the sixth", x.told(2, 5), 8);
        due("taken later, but told", x.told(3, 0), 9);
        due("not told", x.told(5, 5), 0);
        for (int v : new int[] {-1, 6, LEAST, MOST}) {
            due("column", x.told(v, 0), BAD);
            due("height", x.told(0, v), BAD);
        }
    }

    private static void toldOrders() {
        promise = 7;
        IceHouse x = house("", "x9;a1;c5");
        due("week", x.order(0, 0), 23);
        due("wanted", x.order(0, 1), 9);
        due("week", x.order(1, 0), 0);
        due("wanted", x.order(1, 1), 1);
        due("week", x.order(2, 0), 2);
        due("no such order", x.order(3, 0), BAD);
        due("no such order", x.order(-1, 0), BAD);
        due("what", x.order(0, 2), BAD);
        due("what", x.order(0, -1), BAD);
        x.type(1, ';');
        due("with a fault there are none", x.order(0, 0), BAD);
    }

    private static void events() {
        promise = 8;
        IceHouse x = house("9", "");
        due("kind", x.event(3, 0, 0), BAD);
        due("kind", x.event(-1, 0, 0), BAD);
        due("week", x.event(0, 24, 0), BAD);
        due("week", x.event(0, -1, 0), BAD);
        due("number, even of a door", x.event(0, 0, 6), BAD);
        due("number, even of a thaw", x.event(1, 0, -1), BAD);
        due("door", x.event(DOOR, 0, 5), 1);
        due("the door melts the top", x.ice(0, 1), 2);
        due("the door is open once", x.event(DOOR, 0, 0), 2);
        due("as before", x.ice(0, 1), 2);
        due("thaw", x.event(THAW, 1, 3), 3);
        due("in its week", x.ice(1, 1), 2);
        due("straw", x.event(STRAW, 2, 0), 4);
        due("from it on", x.ice(2, 1), 0);
        due("and later", x.ice(23, 0), 5);
        for (int n = 5; n <= 8; n++) due("more", x.event(STRAW, 23, 5), n);
        due("nine", x.event(STRAW, 23, 5), FULL);
        due("bad ahead of full", x.event(STRAW, 23, 6), BAD);
    }

    private static void eventsBack() {
        promise = 9;
        IceHouse x = house("9", "");
        due("none", x.back(), NOT);
        x.event(STRAW, 0, 0);
        x.event(THAW, 0, 0);
        due("both", x.ice(0, 0), 8);
        due("back", x.back(), 1);
        due("the straw is left", x.ice(0, 0), 9);
        due("back", x.back(), 0);
        due("none is left", x.ice(0, 0), 8);
        due("none", x.back(), NOT);
    }

    private static void lay(IceHouse x, int s, int form, int... items) {
        x.sheet(s, form, items.length);
        for (int i = 0; i < items.length; i++) x.lay(s, form, i, items[i]);
    }

    private static void readings() {
        promise = 10;
        IceHouse x = house("9", "");
        lay(x, 1, 0, 2, 0, 0, 1, 5, 5, 0, 6);
        due("two are whole", x.read(1), 2);
        due("they are all", x.count(4), 2);
        due("straw from 0 on", x.ice(4, 0), 9);
        due("thaw in 5", x.ice(5, 0), 8);
        lay(x, 2, 2, 1, 0, 0);
        due("one, and no item more", x.read(2), 1);
        due("it comes to the two", x.count(4), 3);
        lay(x, 2, 2, 0, 0, 0, 0, 24, 0, 1, 1, 1);
        due("till one may not be", x.read(2), 1);
        lay(x, 2, 2, 0, 0, 0, 0, 0, -1);
        due("till one may not be", x.read(2), 1);
        due("five", x.count(4), 5);
        lay(x, 2, 2, 3, 0, 0, 0, 0, 0);
        due("not even the first", x.read(2), 0);
        due("the five are left", x.count(4), 5);
        x.sheet(3, 1, 0);
        due("none", x.read(3), 0);
        due("the five are left", x.count(4), 5);
        due("lost", x.read(0), NULL);
        due("a finding", x.count(8), 1);
        due("no such sheet", x.read(4), BAD);
        due("no such sheet", x.read(-1), BAD);
        due("the five are left", x.count(4), 5);
        readingsComeToThoseTold();
    }

    private static void readingsComeToThoseTold() {
        IceHouse x = house("9", "");
        x.event(THAW, 0, 0);
        due("thaw in 0", x.ice(0, 0), 7);
        lay(x, 0, 2, 0, 0, 0);
        due("one comes", x.read(0), 1);
        due("thaw and door, at once", x.ice(0, 0), 6);
        due("what came last goes first", x.back(), 1);
        due("the thaw is left", x.ice(0, 0), 7);
        x.sheet(3, 1, 60);
        due("seven more may be, of twenty", x.read(3), 7);
        due("eight at most", x.count(4), 8);
        due("none more may be", x.read(3), 0);
        due("eight at most", x.count(4), 8);
        due("no finding", x.count(8), 0);
        due("the first is left", x.ice(0, 0), 6);
        x.back();
        due("one more may be", x.read(0), 1);
        IceHouse y = new IceHouse();
        y.sheet(0, 2, 60);
        due("eight of twenty", y.read(0), 8);
    }

    private static void columns() {
        promise = 11;
        IceHouse x = house("19;9", "");
        // 9 on top is free above and at its right; the 1 below it stands against the 9 beside it
        due("high", x.column(0, 0, 0), 2);
        due("stands", x.column(0, 0, 1), 9);
        due("stands", x.column(0, 1, 1), 8);
        x.event(THAW, 0, 0);
        due("no side is free, no thaw", x.column(0, 0, 0), 2);
        due("thaw above", x.column(0, 0, 1), 8);
        x.wipe(0);
        typeAll(x, 0, "19");
        due("what was on it comes down", x.column(0, 0, 0), 1);
        due("stands", x.column(0, 0, 1), 7);
        for (int v : new int[] {-1, 24, LEAST, MOST}) due("week", x.column(v, 0, 0), BAD);
        for (int v : new int[] {-1, 6, LEAST, MOST}) due("column", x.column(0, v, 0), BAD);
        for (int v : new int[] {-1, 2, LEAST, MOST}) due("what", x.column(0, 0, v), BAD);
    }

    private static void blocks() {
        promise = 12;
        IceHouse x = house("99", "");
        due("the hill is at its left", x.block(0, 0, 0), 9);
        due("above and right", x.block(0, 0, 1), 8);
        due("none", x.block(0, 0, 2), 0);
        due("week by week", x.block(7, 0, 1), 1);
        due("gone", x.block(8, 0, 1), 0);
        due("then the one below is on top", x.block(9, 0, 0), 8);
        IceHouse y = house("1;292;1", "");
        due("left and right, no top", y.block(0, 1, 1), 8);
        due("left, right and top", y.block(0, 1, 2), 1);
        due("the ground has neighbours", y.block(0, 1, 0), 2);
        IceHouse z = house("193", "");
        z.event(THAW, 0, 0);
        due("down by one", z.block(0, 0, 0), 8);
        due("down by one", z.block(0, 0, 1), 1);
        due("nothing above", z.block(0, 0, 2), 0);
        IceHouse last = house(";;;;;9", "");
        due("the hill is at its right", last.block(0, 5, 0), 8);
        last.event(STRAW, 0, 5);
        due("one side alone", last.block(23, 5, 0), 9);
        for (int v : new int[] {-1, 24, LEAST, MOST}) due("week", x.block(v, 0, 0), BAD);
        for (int v : new int[] {-1, 6, LEAST, MOST}) {
            due("column", x.block(0, v, 0), BAD);
            due("height", x.block(0, 0, v), BAD);
        }
    }

    private static void ices() {
        promise = 13;
        IceHouse x = house("9;;9;;9;9", "b9");
        due("ice", x.ice(0, 0), 33);
        due("the last stands against its neighbour and the hill", x.ice(0, 1), 3);
        due("taken is no water", x.ice(1, 1), 3);
        due("nor ice", x.ice(1, 0), 21);
        IceHouse y = house("1", "");
        y.event(DOOR, 0, 0);
        y.event(THAW, 0, 0);
        due("no more water than there was ice", y.ice(0, 1), 1);
        due("none is left", y.ice(0, 0), 0);
        due("no water later", y.ice(1, 1), 0);
        IceHouse z = house(";9", "");
        z.event(DOOR, 0, 0);
        z.event(THAW, 0, 0);
        due("three sides, door, thaw", z.ice(0, 1), 3);
        z.event(STRAW, 0, 1);
        due("two sides, thaw", z.ice(0, 1), 2);
        IceHouse dry = house("9;9;9;9;9;9", "");
        for (int c = 0; c < 6; c++) dry.event(STRAW, 0, c);
        dry.event(DOOR, 0, 0);
        dry.event(THAW, 0, 0);
        due("no free side, no water", dry.ice(0, 1), 0);
        dry.back();
        dry.event(THAW, 23, 0);
        dry.wipe(0);
        typeAll(dry, 0, "9;9;9;9;9");
        due("one side, in the last week", dry.ice(23, 1), 1);
        due("till then none", dry.ice(22, 0), 45);
        for (int v : new int[] {-1, 24, LEAST, MOST}) due("week", x.ice(v, 0), BAD);
        for (int v : new int[] {-1, 2, LEAST, MOST}) due("what", x.ice(0, v), BAD);
    }

    private static void gots() {
        promise = 14;
        IceHouse x = house("5;5;5;16", "a9;a9;b9;b1");
        due("the greatest first, then the least column", x.got(0, 0), 11);
        due("two of like ones", x.got(1, 0), 10);
        due("not short", x.got(1, 1), 0);
        due("what melted is not there", x.got(2, 0), 0);
        due("short", x.got(2, 1), 1);
        due("short", x.got(3, 1), 1);
        IceHouse y = house("4;6", "a3;a6");
        due("as told", y.got(0, 0), 6);
        due("the second has the rest", y.got(1, 0), 4);
        due("short", y.got(1, 1), 1);
        IceHouse z = house("91", "b9;a1");
        due("the week goes ahead of the row", z.got(1, 0), 1);
        due("one week behind", z.got(0, 0), 8);
        due("no such order", x.got(4, 0), BAD);
        due("no such order", x.got(-1, 0), BAD);
        due("what", x.got(0, 2), BAD);
        due("what", x.got(0, -1), BAD);
    }

    private static void sums() {
        promise = 15;
        IceHouse x = house("5;5;5;16", "a9;a9;b9;b1");
        due("together", x.sum(0), 21);
        due("short", x.sum(1), 2);
        x.wipe(1);
        due("none", x.sum(0), 0);
        due("none", x.sum(1), 0);
        due("what", x.sum(2), BAD);
        due("what", x.sum(-1), BAD);
    }

    private static void bares() {
        promise = 16;
        IceHouse x = house("9;;;;;3", "c9");
        due("taken", x.bare(0), 2);
        due("taken with it", x.bare(5), 2);
        due("bare at first", x.bare(1), 0);
        x.wipe(1);
        due("melted", x.bare(0), 8);
        due("melted", x.bare(5), 2);
        x.event(STRAW, 7, 0);
        due("never", x.bare(0), NONE);
        due("column", x.bare(6), BAD);
        due("column", x.bare(-1), BAD);
    }

    private static void lasts() {
        promise = 17;
        IceHouse x = house("9;;;;;3", "");
        due("last", x.last(), 8);
        x.event(STRAW, 8, 0);
        due("never", x.last(), NONE);
        due("nothing at all", new IceHouse().last(), 0);
    }

    private static void talls() {
        promise = 18;
        IceHouse x = house("999999;999999;999999;999999;999999;999999", "a9");
        x.event(STRAW, 0, 0);
        // the tops of columns 1 and 2 are gone one after another, that of 3 is still going
        due("of like ones the least", x.tall(), 3);
        due("lower for the free sides", x.column(23, 2, 0), 5);
        due("none is high", new IceHouse().tall(), 0);
        IceHouse y = house("9;99;9", "");
        for (int c = 0; c < 3; c++) y.event(STRAW, 0, c);
        due("free at both sides, it is no higher in the end", y.tall(), 0);
        IceHouse z = house("9;99;99;9", "");
        for (int c = 0; c < 4; c++) z.event(STRAW, 0, c);
        due("free at one side each, two stay: the less", z.tall(), 1);
        IceHouse last = house("8", "");
        last.event(STRAW, 0, 0);
        for (int week = 17; week < 24; week++) last.event(THAW, week, 0);
        due("one is left behind week 23", last.count(5), 1);
        due("the first", last.tall(), 0);
    }

    private static void drains() {
        promise = 19;
        IceHouse x = house("9;;9", "");
        due("of like ones the least", x.drain(0), 0);
        due("how much", x.drain(1), 2);
        x.event(THAW, 3, 0);
        due("the thaw", x.drain(0), 3);
        due("how much", x.drain(1), 4);
        IceHouse y = house("9;9;9;9;9;9", "b1");
        for (int c = 0; c < 6; c++) y.event(STRAW, 0, c);
        y.event(THAW, 1, 0);
        due("week 1", y.drain(0), 1);
        due("by one side", y.drain(1), 1);
        due("what", x.drain(2), BAD);
        due("what", x.drain(-1), BAD);
    }

    private static void covers() {
        promise = 20;
        IceHouse x = house(";9;;;;9", "");
        due("two free sides are left in the midst", x.cover(0), 5);
        due("how much", x.cover(1), 9);
        for (int n = 0; n < 8; n++) x.event(STRAW, 0, 5);
        due("besides eight events", x.cover(1), 9);
        due("of like ones the least", x.cover(0), 0);
        due("nothing is told by it", x.count(4), 8);
        due("what", x.cover(2), BAD);
        due("what", x.cover(-1), BAD);
    }

    private static void swaps() {
        promise = 21;
        IceHouse x = house("9", "");
        due("of like ones the least", x.swap(0), 0);
        due("the other", x.swap(1), 1);
        due("how much", x.swap(2), 0);
        x.event(STRAW, 0, 5);
        due("where the straw is", x.swap(0), 0);
        due("the other", x.swap(1), 5);
        due("how much", x.swap(2), 9);
        due("nothing is changed by it", x.told(0, 0), 9);
        IceHouse y = house(";12;34", "");
        y.event(STRAW, 0, 0);
        due("the first is less", y.swap(0), 0);
        due("what", x.swap(3), BAD);
        due("what", x.swap(-1), BAD);
    }

    private static void waits() {
        promise = 22;
        IceHouse x = house("9;;2", "b6;a1");
        due("short as told", x.sum(1), 1);
        due("a week later", x.later(1, 0), 1);
        due("none is short", x.later(1, 1), 0);
        due("ahead of the other", x.later(0, 0), 0);
        due("none is short", x.later(0, 1), 0);
        due("nothing is changed by it", x.order(1, 0), 0);
        due("still short", x.sum(1), 1);
        IceHouse y = house("9", "c9;d9");
        due("the least week", y.later(1, 0), 0);
        due("one is short all the same", y.later(1, 1), 1);
        IceHouse none = house("", "x1;x1;x1;x1;x1;x1;x1;x1;x1;x1;x1;x1");
        due("all are short", none.later(11, 0), 0);
        due("all are short", none.later(11, 1), 12);
        IceHouse dry = house("9", "c9");
        dry.event(DOOR, 0, 0);
        due("ahead of the door", dry.later(0, 0), 0);
        dry.wipe(1);
        typeAll(dry, 1, "c9;a1");
        due("the door counts", dry.later(1, 1), 1);
        due("no such order", x.later(2, 0), BAD);
        due("no such order", x.later(-1, 0), BAD);
        due("what", x.later(0, 2), BAD);
        due("what", x.later(0, -1), BAD);
    }

    private static void spare(IceHouse x, int howMany, int first, int second) {
        due("how many", x.spare(NONE), howMany);
        due("first", x.spare(0), first);
        due("second", x.spare(1), second);
    }

    private static void spares() {
        promise = 23;
        IceHouse x = house("9", "b8");
        spare(x, 0, NONE, NONE);
        x.event(THAW, 5, 0);
        spare(x, 0, NONE, NONE);
        x.event(DOOR, 0, 0);
        spare(x, 1, 1, NONE);
        x.event(STRAW, 23, 0);
        x.event(THAW, 0, 0);
        spare(x, 2, 1, 3);
        x.event(THAW, 0, 1);
        spare(x, NONE, NONE, NONE);
        due("nothing is undone by it", x.count(4), 5);
        IceHouse y = house("1", "a2");
        y.event(STRAW, 0, 0);
        spare(y, NONE, NONE, NONE);
        IceHouse z = house("9", "b8");
        z.event(DOOR, 0, 0);
        spare(z, 1, 0, NONE);
        z.event(THAW, 0, 0);
        spare(z, 2, 0, 1);
        due("i", x.spare(2), BAD);
        due("i", x.spare(-2), BAD);
    }

    private static void seens() {
        promise = 24;
        IceHouse x = new IceHouse();
        due("week", x.seen(24, 0, 0), BAD);
        due("week", x.seen(-1, 0, 0), BAD);
        due("column", x.seen(0, 6, 0), BAD);
        due("column", x.seen(0, -1, 0), BAD);
        due("high", x.seen(0, 0, 7), BAD);
        due("high", x.seen(0, 0, -1), BAD);
        for (int n = 1; n <= 8; n++) due("more", x.seen(23, 5, 6), n);
        due("nine", x.seen(0, 0, 0), FULL);
        due("bad ahead of full", x.seen(0, 0, 7), BAD);
        due("count", x.count(7), 8);
    }

    private static void forgets() {
        promise = 25;
        IceHouse x = house("2", "");
        due("none", x.forget(), 0);
        x.seen(0, 0, 6);
        x.seen(0, 0, 5);
        due("nothing fits", x.size(0, 0), 0);
        due("two", x.forget(), 2);
        due("all fits", x.size(0, 0), 1022);
        due("none", x.forget(), 0);
    }

    private static void nevers() {
        promise = 26;
        IceHouse x = house("2", "");
        due("no events", x.never(), 0);
        x.event(DOOR, 20, 0);
        x.event(THAW, 0, 0);
        due("nothing seen", x.never(), 3);
        x.seen(0, 0, 1);
        due("the thaw never was", x.never(), 2);
        x.seen(1, 0, 1);
        due("neither", x.never(), 0);
        x.forget();
        x.seen(0, 0, 0);
        due("the door never was", x.never(), 1);
    }

    private static void sizes() {
        promise = 27;
        IceHouse x = house("2", "");
        due("any", x.size(0, 0), 1022);
        x.seen(2, 0, 1);
        due("4 to 9", x.size(0, 0), 1008);
        x.seen(4, 0, 0);
        due("4, 5", x.size(0, 0), 48);
        x.seen(0, 5, 1);
        due("none", x.size(0, 0), 0);
        due("nothing is changed by it", x.told(0, 0), 2);
        noBlock(x, false);
        due("a height is not the next column", house("2;2", "").size(0, 6), BAD);
        IceHouse y = house("2", "");
        y.event(STRAW, 1, 0);
        y.seen(23, 0, 1);
        due("events are as told", y.size(0, 0), 1020);
    }

    private static void noBlock(IceHouse x, boolean asked) {
        int[][] places = {{0, 1}, {1, 0}, {-1, 0}, {6, 0}, {0, -1}, {0, 6}, {LEAST, MOST}};
        for (int[] p : places) due("no such block", asked ? x.ask(p[0], p[1]) : x.size(p[0], p[1]), BAD);
    }

    private static void asks() {
        promise = 28;
        IceHouse x = house("2", "");
        due("halves", x.ask(0, 0), 3);
        x.seen(2, 0, 1);
        due("4 to 9: halves", x.ask(0, 0), 5);
        x.seen(4, 0, 0);
        due("4 or 5", x.ask(0, 0), 3);
        x.seen(0, 5, 1);
        due("none: the least week", x.ask(0, 0), 0);
        IceHouse y = house("2", "");
        y.event(STRAW, 0, 0);
        due("all alike: the least week", y.ask(0, 0), 0);
        noBlock(x, true);
    }

    private static void chance(IceHouse x, int c, long above, long below) {
        due("above by " + c, x.chance(c, 0, 0), above);
        due("below by " + c, x.chance(c, 0, 1), below);
    }

    private static void chances() {
        promise = 29;
        IceHouse x = house("9", "b8");
        chance(x, 5, 0, 1);
        x.event(DOOR, 0, 0);
        chance(x, 0, 0, 1);
        chance(x, 1, 1, 16);
        chance(x, 4, 1, 4);
        chance(x, 16, 1, 1);
        x.event(THAW, 0, 0);
        chance(x, 4, 7, 16);
        chance(x, 5, 135, 256);
        for (int n = 2; n < 8; n++) x.event(DOOR, 0, n % 6);
        chance(x, 1, 1732076671L, 4294967296L);
        chance(x, 16, 1, 1);
        x.type(1, ';');
        typeAll(x, 1, "a1");
        due("of the other", x.chance(5, 1, 0), 0);
        chance(x, 16, 1, 1);
        long bad = Long.MIN_VALUE + 2;
        for (int v : new int[] {-1, 17, LEAST, MOST}) due("c", x.chance(v, 0, 0), bad);
        for (int v : new int[] {-1, 2, LEAST, MOST}) {
            due("order", x.chance(0, v, 0), bad);
            due("what", x.chance(0, 0, v), bad);
        }
    }

    private static void summersBySeed() {
        promise = 30;
        IceHouse x = house("9", "");
        due("no events", x.summers(484, 0, 0), 0);
        // by 484 straw lies on column 0 from week 0 on, then there is a thaw in week 7
        due("one event", x.summers(484, 1, 0), 9);
        due("two events", x.summers(484, 2, 0), 8);
        due("a seed below 0", x.summers(-315, 2, 0), 8);
        x.event(STRAW, 0, 0);
        due("in place of those told", x.summers(484, 0, 0), 0);
        due("those told stay", x.ice(23, 0), 9);
        typeAll(x, 1, "b8");
        due("none is short", x.summers(94, 0, 1), 0);
        due("by a door in week 0", x.summers(94, 1, 1), 1);
        due("eight events", x.summers(94, 8, 1), 1);
        due("n", x.summers(0, 9, 0), BAD);
        due("n", x.summers(0, -1, 0), BAD);
        due("what", x.summers(0, 0, 2), BAD);
        due("what", x.summers(0, 0, -1), BAD);
    }

    private static void sheets() {
        promise = 31;
        IceHouse x = new IceHouse();
        due("none", x.sheet(0, 0, 0), 0);
        due("most", x.sheet(3, 2, 60), 60);
        due("all 0", x.get(3, 2, 59), 0);
        x.lay(3, 2, 59, 7);
        due("above 60", x.sheet(3, 2, 61), BAD);
        due("below 0", x.sheet(3, 2, -1), SIZE);
        due("a finding", x.count(8), 5);
        due("as before", x.get(3, 2, 59), 7);
        due("new", x.sheet(3, 1, 60), 60);
        due("all 0", x.get(3, 1, 59), 0);
        due("sheet", x.sheet(4, 0, 0), BAD);
        due("sheet", x.sheet(-1, 0, -1), BAD);
        due("form", x.sheet(0, 3, -1), BAD);
        due("form", x.sheet(0, -1, 0), BAD);
        due("least", x.sheet(1, 0, LEAST), SIZE);
        due("most", x.sheet(1, 0, MOST), BAD);
    }

    private static void losses() {
        promise = 32;
        IceHouse x = new IceHouse();
        x.sheet(2, 1, 5);
        due("lose", x.lose(2), 5);
        due("lost", x.lose(2), NULL);
        due("a finding", x.count(8), 1);
        due("item", x.lay(2, 1, 0, 0), NULL);
        due("sheet", x.lose(4), BAD);
        due("sheet", x.lose(-1), BAD);
    }

    private static void lays() {
        promise = 33;
        IceHouse x = new IceHouse();
        x.sheet(0, 0, 2);
        x.sheet(1, 1, 2);
        x.sheet(2, 2, 2);
        due("byte", x.lay(0, 0, 1, 0x12345680), 1);
        due("lowest 8", x.get(0, 0, 1), -128);
        due("short", x.lay(1, 1, 1, 0x12348001), 1);
        due("lowest 16", x.get(1, 1, 1), -32767);
        due("int", x.lay(2, 2, 1, LEAST + 1), 1);
        due("all", x.get(2, 2, 1), LEAST + 1);
        due("index", x.lay(0, 0, 2, 0), INDEX);
        due("a finding", x.count(8), 2);
        due("index", x.lay(0, 0, -1, 0), INDEX);
        due("cast ahead of index", x.lay(0, 1, 2, 0), CAST);
        due("a finding", x.count(8), 3);
        due("null ahead of cast", x.lay(3, 1, 2, 0), NULL);
        due("bad ahead of null", x.lay(3, 3, 2, 0), BAD);
        due("sheet", x.lay(4, 0, 0, 0), BAD);
        due("sheet", x.lay(-1, 0, 0, 0), BAD);
        due("form", x.lay(0, -1, 0, 0), BAD);
        due("the latest finding", x.count(8), 1);
    }

    private static void gets() {
        promise = 34;
        IceHouse x = new IceHouse();
        lay(x, 0, 2, 5, 6);
        due("item", x.get(0, 2, 0), 5);
        due("item", x.get(0, 2, 1), 6);
        due("sheet", x.get(4, 2, 0), LEAST);
        due("sheet", x.get(-1, 2, 0), LEAST);
        due("form", x.get(0, 3, 0), LEAST);
        due("form", x.get(0, -1, 0), LEAST);
        due("no finding", x.count(8), 0);
        due("index", x.get(0, 2, 2), LEAST);
        due("a finding", x.count(8), 2);
        due("cast", x.get(0, 1, 2), LEAST);
        due("a finding", x.count(8), 3);
        due("null", x.get(1, 1, 2), LEAST);
        due("a finding", x.count(8), 1);
        due("index", x.get(0, 2, -1), LEAST);
        due("a finding", x.count(8), 2);
    }

    private static void copies() {
        promise = 35;
        IceHouse x = new IceHouse();
        lay(x, 0, 1, 1, 2, 3, 4, 5);
        lay(x, 1, 1, 9, 9, 9);
        x.sheet(2, 2, 5);
        due("copy", x.copy(0, 3, 1, 1, 2), 1);
        due("stays", x.get(1, 1, 0), 9);
        due("first", x.get(1, 1, 1), 4);
        due("second", x.get(1, 1, 2), 5);
        due("upon itself", x.copy(0, 0, 0, 1, 4), 1);
        for (int i = 0; i < 5; i++) due("as they were", x.get(0, 1, i), i == 0 ? 1 : i);
        due("none at the end", x.copy(0, 5, 1, 3, 0), 1);
        due("none beyond the end", x.copy(0, 6, 1, 0, 0), INDEX);
        due("a finding", x.count(8), 2);
        due("i", x.copy(0, -1, 1, 0, 1), INDEX);
        due("j", x.copy(0, 0, 1, -1, 1), INDEX);
        due("n", x.copy(0, 0, 1, 0, -1), INDEX);
        due("not so many", x.copy(0, 4, 1, 0, 2), INDEX);
        due("not so many", x.copy(0, 0, 1, 2, 2), INDEX);
        due("great numbers", x.copy(0, MOST, 1, 0, MOST), INDEX);
        due("great numbers", x.copy(0, 1, 1, 1, MOST), INDEX);
        due("store ahead of index", x.copy(0, -1, 2, 0, 1), STORE);
        due("a finding", x.count(8), 4);
        due("null ahead of index", x.copy(3, -1, 0, 0, 1), NULL);
        due("null", x.copy(0, 0, 3, 0, 1), NULL);
        due("bad ahead of null", x.copy(3, 0, 4, 0, 1), BAD);
        due("sheet", x.copy(-1, 0, 0, 0, 1), BAD);
        due("sheet", x.copy(4, 0, 0, 0, 1), BAD);
        due("sheet", x.copy(0, 0, -1, 0, 1), BAD);
    }

    private static void writes() {
        promise = 36;
        IceHouse x = house("9;;2", "");
        lay(x, 0, 0, 99, 99, 99);
        due("as many as there are", x.write(0, 0), 3);
        for (int i = 0; i < 3; i++) due("week " + i, x.get(0, 0, i), 8 - i);
        x.sheet(1, 1, 60);
        x.lay(1, 1, 24, 77);
        due("24 at most", x.write(2, 1), 24);
        due("week 0", x.get(1, 1, 0), 1);
        due("week 23", x.get(1, 1, 23), 0);
        due("the rest stays", x.get(1, 1, 24), 77);
        x.sheet(2, 2, 0);
        due("none", x.write(0, 2), 0);
        due("the last column", x.write(5, 2), 0);
        due("lost", x.write(0, 3), NULL);
        due("a finding", x.count(8), 1);
        due("column ahead of null", x.write(6, 3), BAD);
        due("column", x.write(-1, 0), BAD);
        due("sheet", x.write(0, 4), BAD);
        due("sheet", x.write(0, -1), BAD);
    }

    private static void counts() {
        promise = 37;
        IceHouse x = house("99;1", "a1;x9;x9");
        x.event(STRAW, 0, 0);
        x.event(STRAW, 0, 1);
        x.seen(0, 0, 0);
        x.lose(0);
        // the first takes the upper 9, the second the lower, and for the third there is the 1 alone
        int[] want = {3, 3, 4, 8, 2, 0, 1, 1, 1};
        for (int what = 0; what <= 8; what++) due("count " + what, x.count(what), want[what]);
        x.wipe(1);
        due("ice", x.count(5), 19);
        for (int v : new int[] {-1, 9, LEAST, MOST}) due("what", x.count(v), BAD);
    }

    private static long digestByCalls(IceHouse x) {
        long h = 17;
        for (int what = 0; what <= 7; what++) h = 31 * h + x.count(what);
        h = 31 * (31 * h + x.fault(0)) + x.fault(1);
        for (int week = 0; week < 24; week++) h = 31 * (31 * h + x.ice(week, 0)) + x.ice(week, 1);
        for (int c = 0; c < 6; c++) {
            h = 31 * h + x.bare(c);
            for (int height = 0; height < 6; height++) {
                h = 31 * (31 * h + x.told(c, height)) + x.block(4, c, height);
                if (x.told(c, height) > 0) h = 31 * (31 * h + x.size(c, height)) + x.ask(c, height);
            }
            h = 31 * (31 * h + x.column(11, c, 0)) + x.column(11, c, 1);
        }
        for (int o = 0; o < x.count(1); o++) {
            h = 31 * (31 * h + x.order(o, 0)) + x.order(o, 1);
            h = 31 * (31 * h + x.got(o, 0)) + x.got(o, 1);
            h = 31 * (31 * h + x.later(o, 0)) + x.later(o, 1);
            h = 31 * (31 * h + x.chance(5, o, 0)) + x.chance(5, o, 1);
        }
        h = 31 * (31 * h + x.sum(0)) + x.sum(1);
        h = 31 * (31 * h + x.last()) + x.tall();
        h = 31 * (31 * h + x.drain(0)) + x.drain(1);
        h = 31 * (31 * h + x.cover(0)) + x.cover(1);
        h = 31 * (31 * (31 * h + x.swap(0)) + x.swap(1)) + x.swap(2);
        h = 31 * (31 * h + x.spare(NONE)) + x.spare(0);
        h = 31 * h + x.never();
        return 31 * (31 * h + x.summers(7, 6, 0)) + x.summers(7, 6, 1);
    }

    private static IceHouse richHouse() {
        IceHouse x = house("975;8864;9;;57;999999", "a5;b9;b9;e3;h9;k9;x1");
        x.event(DOOR, 0, 5);
        x.event(THAW, 1, 0);
        x.event(STRAW, 2, 5);
        x.event(THAW, 2, 0);
        x.seen(0, 3, 0);
        x.seen(3, 5, x.column(3, 5, 0));
        x.sheet(1, 2, 9);
        return x;
    }

    private static void digests() {
        promise = 38;
        due("a new object", new IceHouse().digest(), 3237028718232775251L);
        IceHouse x = richHouse();
        due("by calls", x.digest(), digestByCalls(x));
        long before = x.digest();
        x.lose(3);
        due("findings are not in it", x.digest(), before);
        IceHouse y = house("9", "b8");
        y.event(DOOR, 0, 0);
        due("by calls", y.digest(), digestByCalls(y));
        y.back();
        due("by calls, after a change", y.digest(), digestByCalls(y));
        y.undo(1);
        due("by calls, with a fault", y.digest(), digestByCalls(y));
        typeAll(y, 0, "9x");
        due("by calls, with two faults", y.digest(), digestByCalls(y));
    }

    private static void refusalsChangeNothing() {
        promise = 0;
        IceHouse x = richHouse();
        x.lay(1, 2, 3, 4);
        long before = x.digest();
        int[] wild = {-1, -2, 256, 300, LEAST, MOST};
        for (int v : wild) {
            x.type(v, 0); x.type(0, v); x.wipe(v); x.undo(v); x.event(v, 0, 0); x.event(0, v, 0);
            x.event(0, 0, v); x.read(v); x.seen(v, 0, 0); x.seen(0, v, 0); x.seen(0, 0, v);
            x.sheet(v, 0, 0); x.sheet(0, v, 0); x.lose(v); x.lay(v, 0, 0, 0); x.lay(1, v, 0, 0);
            x.copy(v, 0, 1, 0, 1); x.write(v, 1); x.write(0, v);
            x.later(v, 0); x.size(v, 0); x.ask(0, v); x.chance(v, 0, 0); x.summers(0, v, 0);
            due("digest", x.digest(), before);
            due("no finding", x.count(8), 0);
        }
        x.sheet(1, 2, -1);
        x.read(2);
        x.lay(1, 0, 3, 9);
        x.lay(1, 2, 9, 9);
        x.copy(1, 0, 2, 0, 1);
        due("digest", x.digest(), before);
        due("the item", x.get(1, 2, 3), 4);
    }

    /** Answers that were worked out once must not outlive what they were worked out from. */
    private static void manyCalls() {
        promise = 0;
        IceHouse x = house("9", "b8");
        for (int n = 0; n < 20; n++) {
            due("short by a door", x.event(DOOR, 0, 0), 1);
            due("chance", x.chance(16, 0, 0), 1);
            due("ice", x.ice(0, 0), 7);
            due("back", x.back(), 0);
            due("chance", x.chance(16, 0, 0), 0);
            due("ice", x.ice(0, 0), 8);
            x.undo(0);
            x.type(0, '3');
            due("chance", x.chance(16, 0, 0), 1);
            due("ice", x.ice(0, 0), 2);
            x.undo(0);
            x.type(0, '9');
            x.wipe(1);
            due("ice", x.ice(1, 0), 7);
            typeAll(x, 1, "b8");
            due("taken", x.ice(1, 0), 0);
        }
    }
}
