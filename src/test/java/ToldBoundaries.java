/** Boundary cases of what is told: texts, orders and events (promises 1 to 10, and the terms that they lean on). */
final class ToldBoundaries extends Boundaries {
    static void run() {
        columnsAre0To5(); used512Times();
        upTo41Bytes(); sixColumns(); sixFigures(); noneIsBare(); laterColumnsAreBare();
        upTo35Bytes(); lettersAndFigures(); firstByte(); emptyIsWell(); notEnded();
        seventhBlock(); sixthMark(); thirteenthOrder(); asIfEmpty();
        weeks(); eightEvents(); doorInIt(); thawInIt(); strawFromItOn();
        newObject(); newSheets();
        typeAByte(); typeRefused(); wipe(); wipeRefused(); undo(); undoRefused(); undoEmpty();
        fault(); faultRefused(); told(); toldRefused(); order(); orderRefused();
        event(); eventBad(); eventFull(); back(); backRefused();
        readWhole(); readAsLongAs(); readBad(); readNull();
    }

    // ---- what it is

    private static void columnsAre0To5() {
        sentence("What it is", "COLUMNS are 0 to 5, side by side.");
        Tale x = tale("1;2;3;4;5;6");
        for (int c = 0; c < 6; c++) x.due(c + 1, "told", c, 0);
        x.due(BAD, "told", -1, 0);
        x.due(BAD, "told", 6, 0);
        // side by side, each has its top free alone, and half of one side, cut, is nothing
        Tale y = tale("9;9;9;9;9;9");
        y.due(54, "ice", 23, 0);
        y.due(0, "ice", 0, 1);
    }

    private static void used512Times() {
        sentence("What it is", "An object is used for at most 512 calls after it has been made");
        Tale x = new Tale();
        x.call("type", 0, '9');
        for (int n = 0; n < 255; n++) {
            x.due(1, "event", THAW, 0, 0);
            x.due(0, "back");
        }
        look(x.calls() == 511, "511 calls were meant", x);
        x.due(8, "ice", 0, 0);
    }

    // ---- texts

    private static void upTo41Bytes() {
        sentence(TERMS, "BLOCKS are a text of up to 41 bytes (text 0)");
        Tale x = new Tale();
        for (int n = 1; n <= 41; n++) x.due(n, "type", 0, SIX_BY_SIX.charAt(n - 1));
        x.due(FULL, "type", 0, '9');
        x.due(41, "count", 2);
        x.due(NONE, "fault", 0);
        x.due(36, "count", 0);
        x.due(9, "told", 5, 5);
    }

    private static void sixColumns() {
        sentence(TERMS, "COLUMN by COLUMN (6 at most), with ; between them: for each");
        Tale x = tale("1;2;3;4;5;6");
        x.due(NONE, "fault", 0);
        x.due(6, "count", 0);
        for (int c = 0; c < 6; c++) {
            x.due(c + 1, "told", c, 0);
            x.due(0, "told", c, 1);
        }
    }

    private static void sixFigures() {
        sentence(TERMS, "up to 6 figures 1 to 9, how great BLOCKS are, from the ground up");
        for (int first : new int[] {1, 4}) {
            Tale x = new Tale();
            for (int h = 0; h < 6; h++) x.call("type", 0, '0' + first + h);
            x.due(NONE, "fault", 0);
            for (int h = 0; h < 6; h++) x.due(first + h, "told", 0, h);
        }
        for (int b : new int[] {0, '0' - 1, '0', '9' + 1, 'a', '1' + 128, 255}) {
            Tale x = tale("1");
            x.call("type", 0, b);
            x.due(1, "fault", 0);
        }
        Tale last = tale(";;;;;123456");
        for (int h = 0; h < 6; h++) last.due(h + 1, "told", 5, h);
    }

    private static void noneIsBare() {
        sentence(TERMS, "(none: it is bare)");
        Tale x = tale(";1;;2;");
        x.due(NONE, "fault", 0);
        for (int c : new int[] {0, 2, 4}) {
            x.due(0, "told", c, 0);
            x.due(0, "bare", c);
        }
        x.due(1, "told", 1, 0);
        x.due(2, "told", 3, 0);
    }

    private static void laterColumnsAreBare() {
        sentence(TERMS, "later COLUMNS are bare.");
        Tale x = tale("99");
        for (int c = 1; c < 6; c++) {
            x.due(0, "told", c, 0);
            x.due(0, "bare", c);
        }
        Tale none = tale("");
        for (int c = 0; c < 6; c++) none.due(0, "bare", c);
    }

    private static void upTo35Bytes() {
        sentence(TERMS, "ORDERS are a text of up to 35 bytes (text 1), 12 at most (0 on), with ; between them");
        Tale x = new Tale();
        for (int n = 1; n <= 35; n++) x.due(n, "type", 1, TWELVE.charAt(n - 1));
        x.due(FULL, "type", 1, ';');
        x.due(35, "count", 3);
        x.due(12, "count", 1);
        x.due(0, "order", 0, 0);
        x.due(1, "order", 0, 1);
        x.due(23, "order", 11, 0);
        x.due(3, "order", 11, 1);
        x.due(BAD, "order", 12, 0);
    }

    private static void lettersAndFigures() {
        sentence(TERMS, "a letter a to x, the WEEK (0 to 23), and a figure 1 to 9, how much is wanted.");
        Tale x = tale("", "a1;x9");
        x.due(NONE, "fault", 1);
        x.due(0, "order", 0, 0);
        x.due(1, "order", 0, 1);
        x.due(23, "order", 1, 0);
        x.due(9, "order", 1, 1);
        for (int b : new int[] {0, 'a' - 1, 'x' + 1, 'A', 'X', '1', ';', 'a' + 128, 255}) {
            Tale y = new Tale();
            y.call("type", 1, b);
            y.due(0, "fault", 1);
        }
        for (int b : new int[] {0, '0' - 1, '0', '9' + 1, 'a', ';', '1' + 128, 255}) {
            Tale y = tale("", "a");
            y.call("type", 1, b);
            y.due(1, "fault", 1);
        }
    }

    private static void faultOf(int want, int text, String bytes) {
        Tale x = new Tale().type(text, bytes);
        x.due(want, "fault", text);
    }

    private static void firstByte() {
        sentence(TERMS, "The FAULT of a text is the place of the first byte with which it cannot go on");
        faultOf(0, 0, "x");
        faultOf(0, 0, "0;x");
        faultOf(2, 0, "1;x;x");
        faultOf(40, 0, SIX_BY_SIX.substring(0, 40) + "0");
        faultOf(0, 1, "1");
        faultOf(2, 1, "a11");
        faultOf(3, 1, "a1;;");
        faultOf(2, 1, "a1x;a1;");
        faultOf(34, 1, TWELVE.substring(0, 34) + "0");
    }

    private static void emptyIsWell() {
        sentence(TERMS, "(an empty one is well;");
        Tale x = new Tale();
        x.due(NONE, "fault", 0);
        x.due(NONE, "fault", 1);
        x.type(0, "x").type(1, "y");
        x.due(0, "fault", 0);
        x.due(0, "fault", 1);
        x.call("undo", 0);
        x.call("wipe", 1);
        x.due(NONE, "fault", 0);
        x.due(NONE, "fault", 1);
    }

    private static void notEnded() {
        sentence(TERMS, "of one that is not ended, its end)");
        faultOf(1, 1, "a");
        faultOf(NONE, 1, "a1");
        faultOf(3, 1, "a1;");
        faultOf(4, 1, "a1;x");
        faultOf(33, 1, TWELVE.substring(0, 33));
        faultOf(34, 1, TWELVE.substring(0, 34));
        // a column without blocks is bare, so blocks are ended wherever they end
        faultOf(NONE, 0, "1;");
        faultOf(NONE, 0, ";");
    }

    private static void seventhBlock() {
        sentence(TERMS, "here also of the first byte of a seventh BLOCK of a COLUMN");
        faultOf(NONE, 0, "111111");
        faultOf(6, 0, "1111111");
        faultOf(6, 0, "11111111");
        faultOf(NONE, 0, "111111;1");
        faultOf(NONE, 0, ";;;;;999999");
        faultOf(11, 0, ";;;;;9999999");
    }

    private static void sixthMark() {
        sentence(TERMS, "of the sixth ; of BLOCKS");
        faultOf(NONE, 0, ";;;;;");
        faultOf(5, 0, ";;;;;;");
        faultOf(5, 0, ";;;;;;;1");
        faultOf(11, 0, "1;1;1;1;1;1;");
        faultOf(40, 0, "999999;999999;999999;999999;999999;99999;");
    }

    private static void thirteenthOrder() {
        sentence(TERMS, "of a thirteenth ORDER.");
        // twelve fill the text, so not a byte of a thirteenth can come, and nothing is wrong with twelve
        Tale x = tale("", TWELVE);
        x.due(FULL, "type", 1, ';');
        x.due(FULL, "type", 1, 'a');
        x.due(NONE, "fault", 1);
        x.due(12, "count", 1);
        x.due(BAD, "order", 12, 0);
    }

    private static void asIfEmpty() {
        sentence(TERMS, "With a FAULT a text is as if it was empty.");
        Tale x = tale("9x", "a1");
        x.due(0, "told", 0, 0);
        x.due(0, "count", 0);
        x.due(0, "bare", 0);
        x.due(0, "ice", 0, 0);
        x.due(BAD, "size", 0, 0);
        x.due(1, "got", 0, 1);
        x.due(2, "count", 2);
        x.call("undo", 0);
        x.due(9, "got", 0, 0);
        x.type(1, ";");
        x.due(0, "count", 1);
        x.due(BAD, "order", 0, 0);
        x.due(BAD, "got", 0, 0);
        x.due(8, "ice", 0, 0);
        x.due(3, "count", 3);
        x.type(1, "b1");
        x.due(2, "count", 1);
    }

    // ---- weeks and events

    private static void weeks() {
        sentence(TERMS, "WEEKS are 0 to 23.");
        Tale x = tale("9;9;9;9;9;9");
        x.due(54, "ice", 0, 0);
        x.due(54, "ice", 23, 0);
        for (int week : new int[] {-1, 24, LEAST, MOST}) x.due(BAD, "ice", week, 0);
    }

    private static void eightEvents() {
        sentence(TERMS, "EVENTS, 8 at most (0 on): a kind, a WEEK, a number 0 to 5:");
        Tale x = tale("9", "b8");
        // the first is event 0, the eighth is event 7
        x.due(1, "event", DOOR, 0, 0);
        x.due(0, "spare", 0);
        for (int n = 2; n <= 7; n++) x.due(n, "event", STRAW, 23, 5);
        x.due(8, "event", THAW, 0, 5);
        x.due(7, "spare", 1);
        x.due(FULL, "event", THAW, 0, 0);
        x.due(8, "count", 4);
    }

    private static void doorInIt() {
        sentence(TERMS, "0 the DOOR is open in it,");
        for (int week : new int[] {0, 1, 22, 23}) {
            Tale x = tale("9999", door(week));
            for (int w = 0; w < 24; w++) x.due(w == week ? 2 : 1, "ice", w, 1);
        }
        Tale two = tale("9999", door(2), door(5));
        for (int w = 0; w < 24; w++) two.due(w == 2 || w == 5 ? 2 : 1, "ice", w, 1);
    }

    private static void thawInIt() {
        sentence(TERMS, "1 a THAW in it (both whatever number is told),");
        for (int week : new int[] {0, 1, 22, 23}) {
            // four high, then three, two: every block of them has a side free
            int high = week == 23 || week == 22 ? 2 : 4;
            Tale x = tale("9999", thaw(week));
            for (int w = 0; w <= week; w++) x.due(w == week ? 1 + high : 1, "ice", w, 1);
            if (week < 23) x.due(1, "ice", week + 1, 1);
        }
        Tale two = tale("9999", thaw(2), thaw(5));
        for (int w = 0; w < 7; w++) two.due(w == 2 || w == 5 ? 5 : 1, "ice", w, 1);
        for (int number = 0; number < 6; number++) {
            tale("99", new int[] {DOOR, 0, number}).due(2, "ice", 0, 1);
            tale("99", new int[] {THAW, 0, number}).due(3, "ice", 0, 1);
        }
    }

    private static void strawFromItOn() {
        sentence(TERMS, "2 STRAW lies on that COLUMN from it on.");
        for (int week : new int[] {0, 1, 22, 23}) {
            Tale x = tale("9999", straw(week, 0));
            for (int w = 0; w < 24; w++) x.due(w < week ? 1 : 0, "ice", w, 1);
        }
        tale(";;;;;9", straw(0, 5)).due(9, "ice", 23, 0);
        tale(";;;;;9", straw(0, 4)).due(0, "ice", 23, 0);
        tale("9", straw(0, 1)).due(0, "ice", 23, 0);
        // told twice, it lies from the earlier week on
        tale("9", straw(2, 0), straw(5, 0)).due(7, "ice", 23, 0);
        tale("9", straw(5, 0), straw(2, 0)).due(7, "ice", 23, 0);
    }

    // ---- promises 1 to 10

    private static void newObject() {
        sentence(1, "No BLOCKS, no ORDERS, no EVENTS;");
        Tale x = new Tale();
        for (int what = 0; what <= 8; what++) x.due(0, "count", what);
        for (int text = 0; text <= 1; text++) {
            x.due(NONE, "fault", text);
            x.due(NOT, "undo", text);
        }
        for (int c = 0; c < 6; c++) x.due(0, "told", c, 0);
        x.due(BAD, "order", 0, 0);
        x.due(NOT, "back");
        x.due(0, "forget");
    }

    private static void newSheets() {
        sentence(1, "all SHEETS are LOST.");
        for (int s = 0; s < 4; s++) {
            Tale x = new Tale();
            x.due(NULL, "lose", s);
            x.due(1, "count", 8);
        }
    }

    private static void typeAByte() {
        sentence(2, "A byte (0 to 255) comes behind a text: how many.");
        Tale x = new Tale();
        x.due(1, "type", 0, 0);
        x.due(2, "type", 0, 255);
        x.due(1, "type", 1, 255);
        x.due(2, "type", 1, 0);
        x.due(2, "count", 2);
        x.due(2, "count", 3);
    }

    private static void typeRefused() {
        sentence(2, "BAD; FULL.");
        edges(Tale::new, BAD, "type", range(0, 1), range(0, 255));
        for (int text = 0; text <= 1; text++) {
            int most = text == 0 ? 41 : 35;
            Tale x = new Tale();
            for (int n = 1; n <= most; n++) x.due(n, "type", text, ';');
            x.due(FULL, "type", text, ';');
            x.due(most, "count", 2 + text);
            x.due(1, "type", 1 - text, ';');
            x.call("undo", text);
            x.due(most, "type", text, ';');
        }
    }

    private static void wipe() {
        sentence(3, "A text is empty: how many bytes it had.");
        Tale x = tale(SIX_BY_SIX, TWELVE);
        x.due(41, "wipe", 0);
        x.due(0, "count", 0);
        x.due(12, "count", 1);
        x.due(0, "wipe", 0);
        x.due(35, "wipe", 1);
        x.due(0, "count", 1);
        x.due(0, "wipe", 1);
        x.due(1, "type", 0, '5');
        x.due(5, "told", 0, 0);
        x.due(0, "told", 0, 1);
    }

    private static void wipeRefused() {
        sentence(3, "BAD.");
        edges(Tale::new, BAD, "wipe", range(0, 1));
    }

    private static void undo() {
        sentence(4, "The last byte of a text is undone: how many are left.");
        Tale x = tale(SIX_BY_SIX, TWELVE);
        x.due(40, "undo", 0);
        x.due(0, "told", 5, 5);
        x.due(34, "undo", 1);
        x.due(34, "fault", 1);
        Tale one = tale("1", "a");
        one.due(0, "undo", 0);
        one.due(0, "count", 0);
        one.due(0, "undo", 1);
        one.due(NONE, "fault", 1);
    }

    private static void undoRefused() {
        sentence(4, "BAD;");
        edges(() -> tale("1", "a"), BAD, "undo", range(0, 1));
        new Tale().due(BAD, "undo", 2);
    }

    private static void undoEmpty() {
        sentence(4, "NOT: it is empty.");
        Tale x = tale("1");
        x.due(NOT, "undo", 1);
        x.due(0, "undo", 0);
        x.due(NOT, "undo", 0);
        x.due(0, "count", 2);
    }

    private static void fault() {
        sentence(5, "The FAULT of a text; NONE.");
        Tale x = tale("1x", "a1");
        x.due(1, "fault", 0);
        x.due(NONE, "fault", 1);
        x.call("undo", 0);
        x.call("undo", 1);
        x.due(NONE, "fault", 0);
        x.due(1, "fault", 1);
    }

    private static void faultRefused() {
        sentence(5, "BAD.");
        edges(Tale::new, BAD, "fault", range(0, 1));
    }

    private static void told() {
        sentence(6, "How great a BLOCK is as told, of a COLUMN at a height (0 to 5); 0: there is none.");
        Tale x = tale("123456;;;;;654321", "a9");
        x.due(1, "told", 0, 0);
        x.due(6, "told", 0, 5);
        x.due(6, "told", 5, 0);
        x.due(1, "told", 5, 5);
        x.due(0, "told", 1, 0);
        x.due(0, "told", 4, 5);
        // a column that has no sixth one doesn't go on in the next
        Tale y = tale("12345;9");
        y.due(0, "told", 0, 5);
        y.due(9, "told", 1, 0);
    }

    private static void toldRefused() {
        sentence(6, "BAD.");
        edges(() -> tale("123456;;;;;654321"), BAD, "told", range(0, 5), range(0, 5));
    }

    private static void order() {
        sentence(7, "The WEEK (what = 0), how much is wanted (1) of an ORDER as told.");
        Tale x = tale("", TWELVE);
        x.due(0, "order", 0, 0);
        x.due(1, "order", 0, 1);
        x.due(23, "order", 11, 0);
        x.due(3, "order", 11, 1);
        // the row is the text's, whatever the weeks
        Tale y = tale("", "x9;a1");
        y.due(23, "order", 0, 0);
        y.due(1, "order", 1, 1);
    }

    private static void orderRefused() {
        sentence(7, "BAD.");
        edges(() -> tale("", TWELVE), BAD, "order", range(0, 11), range(0, 1));
        edges(() -> tale("", "a1"), BAD, "order", range(0, 0), range(0, 1));
        for (int order : new int[] {-1, 0, 1}) new Tale().due(BAD, "order", order, 0);
    }

    private static void event() {
        sentence(8, "An EVENT more: how many.");
        Tale x = new Tale();
        x.due(1, "event", 0, 0, 0);
        x.due(2, "event", 2, 23, 5);
        for (int n = 3; n <= 8; n++) x.due(n, "event", 1, 12, 3);
        x.due(8, "count", 4);
        // what was asked ahead of it is no more what is answered
        Tale asked = tale("9", "b8");
        asked.due(8, "got", 0, 0);
        asked.due(0, "chance", 16, 0, 0);
        asked.call("event", DOOR, 0, 0);
        asked.due(7, "got", 0, 0);
        asked.due(1, "chance", 16, 0, 0);
    }

    private static void eventBad() {
        sentence(8, "BAD;");
        edges(Tale::new, BAD, "event", range(0, 2), range(0, 23), range(0, 5));
    }

    private static void eventFull() {
        sentence(8, "FULL.");
        Tale x = tale("9", straw(0, 0), door(0), door(0), door(0), door(0), door(0), door(0), door(0));
        x.due(FULL, "event", THAW, 0, 0);
        x.due(8, "count", 4);
        x.due(9, "ice", 23, 0);
        x.call("back");
        x.due(8, "event", THAW, 0, 0);
        x.due(8, "ice", 23, 0);
    }

    private static void back() {
        sentence(9, "The last EVENT is undone: how many are left.");
        Tale x = tale("9", straw(0, 0), door(1), door(2), door(3), door(4), door(5), door(6), thaw(7));
        x.due(8, "ice", 23, 0);
        x.due(7, "back");
        x.due(9, "ice", 23, 0);
        for (int n = 6; n >= 1; n--) x.due(n, "back");
        x.due(9, "ice", 23, 0);
        x.due(0, "back");
        x.due(0, "ice", 23, 0);
        Tale asked = tale("9", "b8", thaw(0));
        asked.due(1, "chance", 16, 0, 0);
        asked.call("back");
        asked.due(0, "chance", 16, 0, 0);
    }

    private static void backRefused() {
        sentence(9, "NOT: there is none.");
        Tale x = new Tale();
        x.due(NOT, "back");
        x.due(0, "count", 4);
        x.call("event", 0, 0, 0);
        x.due(0, "back");
        x.due(NOT, "back");
    }

    private static void readWhole() {
        sentence(10, "EVENTS from a SHEET: its items, three for each, as many as are whole,");
        int[][] itemsAndEvents = {{0, 0}, {1, 0}, {2, 0}, {3, 1}, {4, 1}, {5, 1}, {6, 2}, {23, 7}, {24, 8}};
        for (int form = 0; form < 3; form++)
            for (int[] pair : itemsAndEvents) {
                Tale x = new Tale();
                x.call("sheet", 3, form, pair[0]);
                x.due(pair[1], "read", 3);
                x.due(pair[1], "count", 4);
            }
        // what lies behind the items that are whole isn't looked at, though it was there before
        Tale x = new Tale().row(0, INTS, 2, 0, 0, 2, 0, 1);
        x.call("sheet", 0, INTS, 5);
        x.due(1, "read", 0);
        Tale y = tale("9").row(0, BYTES, 2, 3, 0);
        y.due(0, "ice", 23, 0);
        y.due(1, "read", 0);
        y.due(6, "ice", 23, 0);
    }

    private static void readAsLongAs() {
        sentence(10, "as long as each may be: how many.");
        int[][] mayNotBe = {{-1, 0, 0}, {3, 0, 0}, {0, -1, 0}, {0, 24, 0}, {0, 0, -1}, {0, 0, 6}};
        for (int form = 0; form < 3; form++)
            for (int[] not : mayNotBe) {
                Tale first = new Tale().row(0, form, not[0], not[1], not[2], 0, 0, 0);
                first.due(0, "read", 0);
                first.due(0, "count", 4);
                Tale second = new Tale().row(0, form, 2, 23, 5, not[0], not[1], not[2], 0, 0, 0);
                second.due(1, "read", 0);
                second.due(1, "count", 4);
            }
        for (int told = 0; told <= 8; told++) {
            Tale x = new Tale();
            for (int n = 0; n < told; n++) x.call("event", STRAW, 0, 0);
            x.call("sheet", 0, SHORTS, 60);
            x.due(8 - told, "read", 0);
            x.due(8, "count", 4);
            x.due(0, "read", 0);
            x.due(0, "count", 8);
        }
    }

    private static void readBad() {
        sentence(10, "BAD;");
        edges(() -> new Tale().row(0, 0, 0, 0, 0).row(3, 0, 0, 0, 0), BAD, "read", range(0, 3));
    }

    private static void readNull() {
        sentence(10, "NULL.");
        Tale x = tale("", thaw(0)).row(1, 0, 0, 0, 0);
        for (int s : new int[] {0, 2, 3}) x.due(NULL, "read", s);
        x.due(1, "count", 8);
        x.due(1, "count", 4);
        x.call("lose", 1);
        x.due(NULL, "read", 1);
        x.due(1, "count", 4);
    }
}
