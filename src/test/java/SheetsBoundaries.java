import java.math.BigInteger;
import java.util.ArrayList;
import java.util.List;

/** Boundary cases of sheets, counts and the digest (promises 31 to 38, and the terms that they lean on). */
final class SheetsBoundaries extends Boundaries {
    static void run() {
        fourSheets(); rows(); findings(); findNull(); findIndex(); findCast(); findStore(); findSize();
        sheet(); sheetBad(); sheetSize(); lose(); loseBad(); loseNull();
        lay(); layBad(); layNull(); layCast(); layIndex(); get(); getBad(); getFindings();
        copy(); copyBad(); copyNull(); copyStore(); copyIndex(); write(); writeBad(); writeNull();
        count(); countRefused(); digest();
    }

    // ---- terms

    private static void fourSheets() {
        sentence(TERMS, "SHEETS 0 .. 3 are LOST (at first) or");
        Tale x = new Tale();
        for (int s = 0; s < 4; s++) x.due(NULL, "lose", s);
        for (int s : new int[] {-1, 4, LEAST, MOST}) x.due(BAD, "lose", s);
        for (int s = 0; s < 4; s++) x.due(s + 1, "sheet", s, INTS, s + 1);
        for (int s = 0; s < 4; s++) x.due(s + 1, "lose", s);
    }

    private static void rows() {
        sentence(TERMS, "a row of a FORM: 0 bytes, 1 shorts, 2 ints, of 0 to 60 items (0 at first).");
        for (int form = 0; form < 3; form++) {
            Tale x = new Tale();
            x.due(0, "sheet", 0, form, 0);
            x.due(LEAST, "get", 0, form, 0);
            x.due(60, "sheet", 0, form, 60);
            for (int i = 0; i < 60; i++) x.due(0, "get", 0, form, i);
            x.due(LEAST, "get", 0, form, 60);
            x.due(BAD, "sheet", 0, form, 61);
        }
        int[] most = {127, 32767, MOST};
        for (int form = 0; form < 3; form++) {
            Tale x = new Tale().row(0, form, most[form], -most[form] - 1);
            x.due(most[form], "get", 0, form, 0);
            x.due(-most[form] - 1, "get", 0, form, 1);
        }
        // made again, or lost and made again, its items are 0 again
        Tale again = new Tale().row(0, INTS, 7);
        again.call("sheet", 0, INTS, 1);
        again.due(0, "get", 0, INTS, 0);
        again.call("lay", 0, INTS, 0, 7);
        again.call("lose", 0);
        again.call("sheet", 0, INTS, 1);
        again.due(0, "get", 0, INTS, 0);
    }

    private static void findings() {
        sentence(TERMS, "FINDINGS (answers -10 less the number; they change nothing but count() 8):");
        Tale x = new Tale().row(0, BYTES, 1, 2).row(1, INTS, 3, 4);
        x.due(0, "count", 8);
        long before = x.call("digest");
        x.due(-15, "sheet", 0, BYTES, -1);
        x.due(5, "count", 8);
        x.due(-14, "copy", 0, 0, 1, 0, 1);
        x.due(4, "count", 8);
        x.due(-13, "lay", 0, INTS, 0, 9);
        x.due(3, "count", 8);
        x.due(-12, "lay", 0, BYTES, 2, 9);
        x.due(2, "count", 8);
        x.due(-11, "lay", 2, BYTES, 0, 9);
        x.due(1, "count", 8);
        x.due(before, "digest");
        x.due(1, "get", 0, BYTES, 0);
        x.due(2, "get", 0, BYTES, 1);
        x.due(3, "get", 1, INTS, 0);
        x.due(4, "get", 1, INTS, 1);
        // what is well doesn't wipe the latest, nor does what is BAD, NOT or FULL
        x.due(BAD, "lose", 4);
        x.due(NOT, "back");
        x.due(1, "count", 8);
    }

    private static void findNull() {
        sentence(TERMS, "1 NULL: the SHEET is LOST;");
        Tale x = new Tale().row(0, BYTES);
        x.due(NULL, "lose", 1);
        x.due(NULL, "read", 1);
        x.due(NULL, "lay", 1, BYTES, 0, 0);
        x.due(NULL, "copy", 0, 0, 1, 0, 0);
        x.due(NULL, "copy", 1, 0, 0, 0, 0);
        x.due(NULL, "write", 0, 1);
        x.due(1, "count", 8);
        // one without items isn't lost
        x.due(0, "read", 0);
        x.due(0, "lose", 0);
        x.due(NULL, "lose", 0);
    }

    private static void findIndex() {
        sentence(TERMS, "2 INDEX: there is no such item;");
        for (int n : new int[] {0, 1, 60})
            for (int i : new int[] {-1, n, LEAST, MOST}) {
                Tale x = new Tale();
                x.call("sheet", 0, BYTES, n);
                x.due(INDEX, "lay", 0, BYTES, i, 0);
                x.due(2, "count", 8);
            }
    }

    private static void findCast() {
        sentence(TERMS, "3 CAST: it has another FORM;");
        for (int has = 0; has < 3; has++)
            for (int as = 0; as < 3; as++) {
                Tale x = new Tale().row(0, has, 5);
                x.due(has == as ? 1 : CAST, "lay", 0, as, 0, 0);
                x.due(has == as ? 0 : 3, "count", 8);
            }
    }

    private static void findStore() {
        sentence(TERMS, "4 STORE: unlike FORMS;");
        for (int one = 0; one < 3; one++)
            for (int other = 0; other < 3; other++) {
                Tale x = new Tale().row(0, one, 5).row(1, other, 6);
                x.due(one == other ? 1 : STORE, "copy", 0, 0, 1, 0, 1);
                x.due(one == other ? 0 : 4, "count", 8);
                x.due(one == other ? 5 : 6, "get", 1, other, 0);
            }
    }

    private static void findSize() {
        sentence(TERMS, "5 SIZE: below 0.");
        for (int n : new int[] {-1, LEAST}) {
            Tale x = new Tale().row(0, BYTES, 7);
            x.due(SIZE, "sheet", 0, INTS, n);
            x.due(5, "count", 8);
            x.due(7, "get", 0, BYTES, 0);
        }
        Tale none = new Tale();
        none.due(0, "sheet", 0, INTS, 0);
        none.due(0, "count", 8);
    }

    // ---- promises 31 to 36

    private static void sheet() {
        sentence(31, "A SHEET is a new row of a FORM with n items: n.");
        Tale x = new Tale();
        for (int n : new int[] {0, 1, 59, 60}) {
            x.due(n, "sheet", 3, SHORTS, n);
            if (n > 0) x.due(1, "lay", 3, SHORTS, n - 1, 5);
            x.due(INDEX, "lay", 3, SHORTS, n, 5);
        }
        x.due(60, "sheet", 3, BYTES, 60);
        x.due(0, "get", 3, BYTES, 59);
        x.due(CAST, "lay", 3, SHORTS, 0, 0);
    }

    private static void sheetBad() {
        sentence(31, "BAD: SHEET, FORM, above 60;");
        edges(Tale::new, BAD, "sheet", range(0, 3), range(0, 2), range(LEAST, 60));
        Tale x = new Tale().row(0, INTS, 7);
        x.due(BAD, "sheet", 0, INTS, 61);
        x.due(BAD, "sheet", 0, 3, 1);
        x.due(7, "get", 0, INTS, 0);
        x.due(0, "count", 8);
    }

    private static void sheetSize() {
        sentence(31, "SIZE.");
        new Tale().due(SIZE, "sheet", 0, BYTES, -1);
        new Tale().due(SIZE, "sheet", 3, INTS, LEAST);
        new Tale().due(BAD, "sheet", 4, BYTES, -1);
        new Tale().due(BAD, "sheet", 0, 3, -1);
    }

    private static void lose() {
        sentence(32, "It is LOST: how many items it had.");
        for (int n : new int[] {0, 1, 60})
            for (int s : new int[] {0, 3}) {
                Tale x = new Tale();
                x.call("sheet", s, n % 3, n);
                x.due(n, "lose", s);
                x.due(NULL, "lose", s);
            }
    }

    private static void loseBad() {
        sentence(32, "BAD;");
        edges(() -> new Tale().row(0, 0, 1).row(3, 0, 1), BAD, "lose", range(0, 3));
    }

    private static void loseNull() {
        sentence(32, "NULL.");
        Tale x = new Tale().row(1, BYTES, 1);
        for (int s : new int[] {0, 2, 3}) x.due(NULL, "lose", s);
        x.due(1, "lose", 1);
        x.due(NULL, "lose", 1);
        x.due(1, "count", 8);
    }

    private static void lay() {
        sentence(33, "Item i, treated as of a FORM, becomes v (the lowest bits that it has): 1.");
        laid(BYTES, 127, 127);
        laid(BYTES, 128, -128);
        laid(BYTES, 255, -1);
        laid(BYTES, 256, 0);
        laid(BYTES, -129, 127);
        laid(BYTES, LEAST, 0);
        laid(BYTES, MOST, -1);
        laid(SHORTS, 32767, 32767);
        laid(SHORTS, 32768, -32768);
        laid(SHORTS, 65535, -1);
        laid(SHORTS, 65536, 0);
        laid(SHORTS, -32769, 32767);
        laid(SHORTS, LEAST, 0);
        laid(SHORTS, MOST, -1);
        laid(INTS, MOST, MOST);
        laid(INTS, LEAST, LEAST);
        laid(INTS, -1, -1);
        Tale x = new Tale();
        x.call("sheet", 0, INTS, 60);
        x.due(1, "lay", 0, INTS, 0, 5);
        x.due(1, "lay", 0, INTS, 59, 6);
        x.due(5, "get", 0, INTS, 0);
        x.due(0, "get", 0, INTS, 1);
        x.due(0, "get", 0, INTS, 58);
        x.due(6, "get", 0, INTS, 59);
    }

    private static void laid(int form, int v, int want) {
        Tale x = new Tale();
        x.call("sheet", 0, form, 2);
        x.due(1, "lay", 0, form, 1, v);
        x.due(want, "get", 0, form, 1);
        x.due(0, "get", 0, form, 0);
        x.due(0, "count", 8);
    }

    private static Tale threeForms() {
        return new Tale().row(0, BYTES, 1, 2).row(1, SHORTS, 3, 4).row(2, INTS, 5, 6);
    }

    private static void layBad() {
        sentence(33, "BAD;");
        edges(SheetsBoundaries::threeForms, BAD, "lay", range(0, 3), range(0, 2), range(LEAST, MOST), range(LEAST, MOST));
    }

    private static void layNull() {
        sentence(33, "NULL;");
        Tale x = threeForms();
        x.due(NULL, "lay", 3, BYTES, 0, 0);
        x.due(NULL, "lay", 3, INTS, -1, 0);
        x.due(1, "count", 8);
        x.due(1, "lay", 2, INTS, 0, 0);
    }

    private static void layCast() {
        sentence(33, "CAST;");
        Tale x = threeForms();
        x.due(CAST, "lay", 0, SHORTS, 0, 9);
        x.due(CAST, "lay", 0, INTS, -1, 9);
        x.due(CAST, "lay", 2, BYTES, 2, 9);
        x.due(3, "count", 8);
        x.due(1, "get", 0, BYTES, 0);
    }

    private static void layIndex() {
        sentence(33, "INDEX.");
        Tale x = threeForms();
        for (int i : new int[] {-1, 2, LEAST, MOST}) x.due(INDEX, "lay", 1, SHORTS, i, 9);
        x.due(2, "count", 8);
        x.due(3, "get", 1, SHORTS, 0);
        x.due(4, "get", 1, SHORTS, 1);
    }

    private static void get() {
        sentence(34, "Item i of it.");
        Tale x = threeForms();
        for (int s = 0; s < 3; s++)
            for (int i = 0; i < 2; i++) x.due(2 * s + i + 1, "get", s, s, i);
        x.due(0, "count", 8);
        // an item may be the least int itself, and that is no finding
        x.call("lay", 2, INTS, 0, LEAST);
        x.due(LEAST, "get", 2, INTS, 0);
        x.due(0, "count", 8);
    }

    private static void getBad() {
        sentence(34, "BAD: the least int;");
        for (int[] wrong : new int[][] {{-1, 0, 0}, {4, 0, 0}, {LEAST, 0, 0}, {MOST, 0, 0}, {0, -1, 0}, {0, 3, 0}, {0, LEAST, 0},
            {0, MOST, 0}, {4, 3, -1}, {3, 3, 0}}) {
            Tale x = threeForms();
            x.due(LEAST, "get", wrong);
            x.due(0, "count", 8);
        }
    }

    private static void getFindings() {
        sentence(34, "so are NULL, CAST, INDEX (count() 8 tells).");
        int[][] andFinding = {{3, 0, 0, 1}, {3, 2, -1, 1}, {0, 1, 0, 3}, {0, 2, 2, 3}, {1, 0, -1, 3}, {0, 0, 2, 2}, {0, 0, -1, 2},
            {2, 2, LEAST, 2}, {2, 2, MOST, 2}};
        for (int[] it : andFinding) {
            Tale x = threeForms();
            x.due(LEAST, "get", it[0], it[1], it[2]);
            x.due(it[3], "count", 8);
        }
    }

    private static Tale twoRows() {
        return new Tale().row(0, SHORTS, 1, 2, 3, 4, 5).row(1, SHORTS, 6, 7, 8).row(2, INTS, 9);
    }

    private static void itemsAre(Tale x, int s, int... want) {
        for (int i = 0; i < want.length; i++) x.due(want[i], "get", s, SHORTS, i);
        x.due(INDEX, "lay", s, SHORTS, want.length, 0);
    }

    private static void copy() {
        sentence(35, "n items of SHEET s, from i on, come to SHEET t (perhaps s, as they were), from j on: 1.");
        Tale x = twoRows();
        x.due(1, "copy", 0, 0, 1, 0, 3);
        itemsAre(x, 1, 1, 2, 3);
        itemsAre(x, 0, 1, 2, 3, 4, 5);
        Tale end = twoRows();
        end.due(1, "copy", 0, 4, 1, 2, 1);
        itemsAre(end, 1, 6, 7, 5);
        Tale none = twoRows();
        none.due(1, "copy", 0, 0, 1, 0, 0);
        none.due(1, "copy", 0, 5, 1, 3, 0);
        itemsAre(none, 1, 6, 7, 8);
        Tale up = twoRows();
        up.due(1, "copy", 0, 0, 0, 1, 4);
        itemsAre(up, 0, 1, 1, 2, 3, 4);
        Tale down = twoRows();
        down.due(1, "copy", 0, 1, 0, 0, 4);
        itemsAre(down, 0, 2, 3, 4, 5, 5);
        Tale same = twoRows();
        same.due(1, "copy", 0, 0, 0, 0, 5);
        itemsAre(same, 0, 1, 2, 3, 4, 5);
        Tale sixty = new Tale();
        sixty.call("sheet", 0, INTS, 60);
        sixty.call("sheet", 3, INTS, 60);
        sixty.call("lay", 0, INTS, 59, 7);
        sixty.due(1, "copy", 0, 0, 3, 0, 60);
        sixty.due(7, "get", 3, INTS, 59);
    }

    private static void copyBad() {
        sentence(35, "BAD: the SHEETS;");
        for (int s : new int[] {-1, 4, LEAST, MOST}) {
            twoRows().due(BAD, "copy", s, 0, 0, 0, 1);
            twoRows().due(BAD, "copy", 0, 0, s, 0, 1);
            // ahead of a lost one, and of items that there are not
            twoRows().due(BAD, "copy", s, 0, 3, 0, 1);
            twoRows().due(BAD, "copy", 3, 0, s, 0, 1);
            twoRows().due(BAD, "copy", 0, -1, s, -1, -1);
        }
    }

    private static void copyNull() {
        sentence(35, "NULL: s, t;");
        twoRows().due(NULL, "copy", 3, 0, 0, 0, 1);
        twoRows().due(NULL, "copy", 0, 0, 3, 0, 1);
        twoRows().due(NULL, "copy", 3, 0, 3, 0, 0);
        Tale x = twoRows();
        x.due(NULL, "copy", 3, -1, 2, -1, -1);
        x.due(1, "count", 8);
    }

    private static void copyStore() {
        sentence(35, "STORE;");
        Tale x = twoRows();
        x.due(STORE, "copy", 0, 0, 2, 0, 1);
        x.due(STORE, "copy", 2, 0, 0, 0, 1);
        // forms are looked at though no item would come, and ahead of items that there are not
        x.due(STORE, "copy", 0, 0, 2, 0, 0);
        x.due(STORE, "copy", 0, -1, 2, 0, 1);
        x.due(STORE, "copy", 0, 0, 2, 0, 60);
        x.due(4, "count", 8);
        x.due(9, "get", 2, INTS, 0);
        itemsAre(x, 0, 1, 2, 3, 4, 5);
    }

    private static void copyIndex() {
        sentence(35, "INDEX: below 0, not so many.");
        int[][] ijn = {{-1, 0, 1}, {0, -1, 1}, {0, 0, -1}, {-1, 0, 0}, {0, -1, 0}, {5, 0, 1}, {0, 3, 1}, {4, 0, 2}, {0, 2, 2}, {0, 0, 4},
            {6, 0, 0}, {0, 4, 0}, {LEAST, 0, 1}, {0, LEAST, 1}, {0, 0, LEAST}, {MOST, 0, 1}, {0, MOST, 1}, {0, 0, MOST}, {1, 1, MOST},
            {MOST, MOST, MOST}, {MOST, 0, 0}, {6, 0, -1}, {1, 4, -1}};
        for (int[] it : ijn) {
            Tale x = twoRows();
            x.due(INDEX, "copy", 0, it[0], 1, it[1], it[2]);
            x.due(2, "count", 8);
            itemsAre(x, 0, 1, 2, 3, 4, 5);
            itemsAre(x, 1, 6, 7, 8);
        }
        Tale empty = new Tale().row(0, SHORTS).row(1, SHORTS);
        empty.due(1, "copy", 0, 0, 1, 0, 0);
        empty.due(INDEX, "copy", 0, 0, 1, 0, 1);
    }

    private static void write() {
        sentence(36, "How much stands in a COLUMN behind WEEKS 0 on comes to a SHEET from item 0 on, as many as there are items, "
            + "24 at most: how many.");
        for (int n : new int[] {0, 1, 2, 23, 24, 25, 60}) {
            int written = Math.min(n, 24);
            Tale x = tale("9999;;;;;1");
            x.call("sheet", 3, SHORTS, n);
            for (int i = 0; i < n; i++) x.call("lay", 3, SHORTS, i, 99);
            x.due(written, "write", 0, 3);
            for (int i = 0; i < n; i++) x.due(i < written ? 35 - i : 99, "get", 3, SHORTS, i);
        }
        for (int form = 0; form < 3; form++) {
            Tale most = tale(";;;;;999999", straw(0, 5)).row(0, form, 1, 2);
            most.due(2, "write", 5, 0);
            most.due(54, "get", 0, form, 0);
            most.due(54, "get", 0, form, 1);
            most.due(2, "write", 0, 0);
            most.due(0, "get", 0, form, 1);
        }
    }

    private static void writeBad() {
        sentence(36, "BAD;");
        edges(() -> new Tale().row(0, INTS, 1).row(3, INTS, 1), BAD, "write", range(0, 5), range(0, 3));
        new Tale().due(BAD, "write", 6, 0);
        new Tale().due(BAD, "write", -1, 0);
    }

    private static void writeNull() {
        sentence(36, "NULL.");
        Tale x = tale("9").row(1, INTS, 7);
        for (int s : new int[] {0, 2, 3}) x.due(NULL, "write", 0, s);
        x.due(1, "count", 8);
        x.due(7, "get", 1, INTS, 0);
    }

    // ---- promises 37 and 38

    private static Tale full() {
        return tale(SIX_BY_SIX, TWELVE, straw(0, 0), thaw(0), door(1), thaw(2), straw(3, 4), thaw(9), door(9), thaw(23));
    }

    private static void count() {
        sentence(37, "0 BLOCKS as told, 1 ORDERS, 2, 3 bytes of texts, 4 EVENTS, 5 ICE behind WEEK 23, 6 how many are SHORT, "
            + "7 SEEN, 8 the number of the latest FINDING (0 before any).");
        Tale none = new Tale();
        for (int what = 0; what <= 8; what++) none.due(0, "count", what);
        Tale x = full();
        for (int n = 0; n < 8; n++) x.call("seen", 0, 0, 0);
        x.call("sheet", 0, 0, -1);
        int[] want = {36, 12, 41, 35, 8, NONE, 0, 8, 5};
        for (int what = 0; what <= 8; what++)
            if (what != 5) x.due(want[what], "count", what);
        x.due(x.call("ice", 23, 0), "count", 5);
        // as told: what is taken or melted counts, but with a fault there is none, though there are bytes
        Tale taken = tale("9", "a9;a1");
        taken.due(1, "count", 0);
        taken.due(0, "count", 5);
        taken.due(1, "count", 6);
        taken.type(0, "x").type(1, "x");
        taken.due(0, "count", 0);
        taken.due(0, "count", 1);
        taken.due(2, "count", 2);
        taken.due(6, "count", 3);
        tale(SIX_BY_SIX).due(324, "count", 5);
        tale("", TWELVE).due(12, "count", 6);
    }

    private static void countRefused() {
        sentence(37, "BAD.");
        edges(SheetsBoundaries::full, BAD, "count", range(0, 8));
    }

    private static void add(List<Long> values, Tale x, String name, int... args) {
        values.add(x.call(name, args));
    }

    /** The numbers of the digest, each by its call. */
    private static List<Long> digested(Tale x, int orders) {
        List<Long> values = new ArrayList<>();
        for (int what = 0; what <= 7; what++) add(values, x, "count", what);
        for (int text = 0; text <= 1; text++) add(values, x, "fault", text);
        for (int week = 0; week < 24; week++)
            for (int what = 0; what <= 1; what++) add(values, x, "ice", week, what);
        for (int c = 0; c < 6; c++) {
            add(values, x, "bare", c);
            for (int h = 0; h < 6; h++) {
                add(values, x, "told", c, h);
                boolean thereIsOne = values.get(values.size() - 1) > 0;
                add(values, x, "block", 4, c, h);
                if (thereIsOne) add(values, x, "size", c, h);
                if (thereIsOne) add(values, x, "ask", c, h);
            }
            for (int what = 0; what <= 1; what++) add(values, x, "column", 11, c, what);
        }
        for (int order = 0; order < orders; order++) {
            for (String name : new String[] {"order", "got", "later"})
                for (int what = 0; what <= 1; what++) add(values, x, name, order, what);
            for (int what = 0; what <= 1; what++) add(values, x, "chance", 5, order, what);
        }
        for (int what = 0; what <= 1; what++) add(values, x, "sum", what);
        add(values, x, "last");
        add(values, x, "tall");
        for (int what = 0; what <= 1; what++) add(values, x, "drain", what);
        for (int what = 0; what <= 1; what++) add(values, x, "cover", what);
        for (int what = 0; what <= 2; what++) add(values, x, "swap", what);
        add(values, x, "spare", NONE);
        add(values, x, "spare", 0);
        add(values, x, "never");
        for (int what = 0; what <= 1; what++) add(values, x, "summers", 7, 6, what);
        return values;
    }

    private static void digestOf(Tale x, int orders) {
        // without a wrap, and cut to a long in the end, which is the same
        BigInteger h = BigInteger.valueOf(17);
        for (long value : digested(x, orders)) h = h.multiply(BigInteger.valueOf(31)).add(BigInteger.valueOf(value));
        x.due(h.longValue(), "digest");
    }

    private static void digest() {
        sentence(38, "h is 17; h becomes 31 h and each of: count() 0 to 7; of texts fault(); of WEEKS 0 to 23 ice() 0, 1; "
            + "of COLUMNS bare(), of heights 0 to 5 told(it, the height), block(4, it, the height), of those that there are "
            + "size(), ask(); column(11, it, 0 and 1); of ORDERS order() 0, 1, got() 0, 1, later() 0, 1, chance(5, it), "
            + "above, below; sum() 0, 1, last(), tall(), drain() 0, 1, cover() 0, 1, swap() 0 to 2, spare(NONE), spare(0), "
            + "never(), summers(7, 6, 0 and 1); as longs that wrap.");
        digestOf(new Tale(), 0);
        digestOf(full(), 12);
        digestOf(tale("9", "b8", door(0), thaw(0)), 1);
        // one column is bare behind week 11, another behind week 12; and a block is gone behind week 4, another behind 5
        digestOf(tale("93;;;;;94"), 0);
        digestOf(tale("95;;;;;96"), 0);
        digestOf(tale("9x", "b8"), 1);
        digestOf(tale("9", "b8;"), 0);
        Tale seen = tale("95;;1", "c9;x1", thaw(0), straw(1, 0));
        seen.call("seen", 0, 0, 2);
        digestOf(seen, 2);
        // neither findings nor sheets are in it
        Tale x = full();
        long before = x.call("digest");
        x.call("sheet", 0, INTS, 60);
        x.call("lose", 3);
        x.due(before, "digest");
    }
}
