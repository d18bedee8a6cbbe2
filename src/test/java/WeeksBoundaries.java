/** Boundary cases of orders, of melting and of what is behind a week (promises 11 to 19, and the terms that they lean on). */
final class WeeksBoundaries extends Boundaries {
    static void run() {
        ordersFirst(); asLongAsLess(); greatestOnTop(); tillNoneIsLeft(); isShort();
        allAtOnce(); strawLiesAlready(); halfOfFreeSides(); doorOnTop(); thawIfAnyIsFree();
        freeTop(); freeLeftAndRight(); hill(); meltsIsWater(); nothingIsLeft();
        behindAWeek(); iceAndWater(); ofAnOrder(); sumOfAll(); howManyAreShort();
        bareFirst(); lastFirst(); tallest(); drainMost();
        column(); columnRefused(); block(); blockRefused(); ice(); iceRefused(); got(); gotRefused();
        sum(); sumRefused(); bare(); bareRefused(); last(); tall(); drain(); drainRefused();
    }

    // ---- orders

    private static void ordersFirst() {
        sentence(TERMS, "In a WEEK first its ORDERS come, as told:");
        Tale x = tale("9", "a9");
        x.due(9, "got", 0, 0);
        x.due(0, "ice", 0, 1);
        // of one week as they stand in the text, of another week by the week
        Tale same = tale("9", "c1;c1");
        same.due(7, "got", 0, 0);
        same.due(0, "got", 1, 0);
        Tale other = tale("9", "c1;b1");
        other.due(0, "got", 0, 0);
        other.due(8, "got", 1, 0);
        Tale last = tale("9", "x9", straw(0, 0));
        last.due(9, "ice", 22, 0);
        last.due(9, "got", 0, 0);
        last.due(0, "ice", 23, 0);
    }

    private static void asLongAsLess() {
        sentence(TERMS, "for one, as long as what it has is less than what is wanted,");
        Tale x = tale("5;5;5", "a5");
        x.due(5, "got", 0, 0);
        Tale y = tale("5;5;5", "a6");
        y.due(10, "got", 0, 0);
        Tale z = tale("5;5;5", "a4");
        z.due(5, "got", 0, 0);
    }

    private static void greatestOnTop() {
        sentence(TERMS, "the greatest BLOCK that is on top of any COLUMN, of like ones of the least COLUMN, is TAKEN,");
        for (int c = 0; c < 6; c++) {
            StringBuilder blocks = new StringBuilder("8;8;8;8;8;8");
            blocks.setCharAt(2 * c, '9');
            Tale x = tale(blocks.toString(), "a9");
            for (int other = 0; other < 6; other++) x.due(other == c ? 0 : 1, "column", 0, other, 0);
        }
        // one that has another on it is not on top
        Tale below = tale("91;2", "a1");
        below.due(2, "got", 0, 0);
        Tale like = tale(";;5;5;5;5", "a5");
        like.due(0, "column", 0, 2, 0);
        for (int c = 3; c < 6; c++) like.due(1, "column", 0, c, 0);
        // with its top taken, what was below is on top, for the same order too
        Tale then = tale("95;4", "a6");
        then.due(14, "got", 0, 0);
        then.due(1, "column", 0, 1, 0);
        // taken, it stands there no more
        for (int week : new int[] {0, 23}) {
            then.due(0, "column", week, 0, 1);
            then.due(0, "block", week, 0, 0);
            then.due(0, "block", week, 0, 1);
        }
        Tale top = tale("99", "a9", straw(0, 0));
        top.due(9, "column", 23, 0, 1);
        top.due(0, "block", 23, 0, 1);
    }

    private static void tillNoneIsLeft() {
        sentence(TERMS, "and it has as much more as that is great, till there is none left.");
        Tale x = tale("1;1", "a9;a9");
        x.due(2, "got", 0, 0);
        x.due(0, "got", 1, 0);
        x.due(0, "ice", 0, 0);
        Tale all = tale("111111;11", "a9");
        all.due(8, "got", 0, 0);
        all.due(1, "got", 0, 1);
        tale("", "a1").due(0, "got", 0, 0);
    }

    private static void isShort() {
        sentence(TERMS, "It is SHORT, if it has less than is wanted then.");
        tale("8", "a9").due(1, "got", 0, 1);
        tale("9", "a9").due(0, "got", 0, 1);
        tale("99", "a9").due(0, "got", 0, 1);
        tale("", "a1").due(1, "got", 0, 1);
        tale("1", "a1").due(0, "got", 0, 1);
    }

    // ---- melting

    private static void allAtOnce() {
        sentence(TERMS, "Then it MELTS, all BLOCKS at once, by how they stand then");
        // the 1 goes in week 0, and only behind that has the 9 beside it a second side free
        Tale right = tale(";1;9", straw(0, 2));
        right.due(0, "column", 0, 1, 0);
        right.due(9, "block", 0, 2, 0);
        right.due(8, "block", 1, 2, 0);
        Tale left = tale(";;;9;1", straw(0, 3));
        left.due(0, "column", 0, 4, 0);
        left.due(9, "block", 0, 3, 0);
        left.due(8, "block", 1, 3, 0);
        // nor is the 9 on top ahead of week 1
        Tale below = tale("91");
        below.due(9, "block", 0, 0, 0);
        below.due(8, "block", 1, 0, 0);
        // but what an order took in the week is gone when it melts
        Tale taken = tale("9;9", "a1");
        taken.due(8, "block", 0, 1, 0);
    }

    private static void strawLiesAlready() {
        sentence(TERMS, "(STRAW of that WEEK lies already):");
        Tale x = tale("9", straw(0, 0));
        x.due(0, "ice", 0, 1);
        Tale y = tale("9", straw(3, 0));
        y.due(1, "ice", 2, 1);
        y.due(0, "ice", 3, 1);
    }

    private static void halfOfFreeSides() {
        sentence(TERMS, "of each as much as half of its FREE sides, cut,");
        tale("9;9;9", straw(0, 1)).due(9, "block", 0, 1, 0);
        tale("9;9;9").due(9, "block", 0, 1, 0);
        tale("9;9").due(8, "block", 0, 1, 0);
        tale(";9").due(8, "block", 0, 1, 0);
        tale(";9", straw(0, 1)).due(8, "block", 0, 1, 0);
    }

    private static void doorOnTop() {
        sentence(TERMS, "and 1 more, if the DOOR is open, and it is on top without STRAW,");
        Tale x = tale("99", door(0));
        x.due(9, "block", 0, 0, 0);
        x.due(7, "block", 0, 0, 1);
        tale("9;9;9", door(0)).due(8, "block", 0, 1, 0);
        tale(";9", door(0)).due(7, "block", 0, 1, 0);
        tale(";9", door(0), straw(0, 1)).due(8, "block", 0, 1, 0);
        tale(";9", door(0), straw(1, 1)).due(7, "block", 0, 1, 0);
        // open is open, however often that is told
        tale("9;9;9", door(0), door(0)).due(8, "block", 0, 1, 0);
    }

    private static void thawIfAnyIsFree() {
        sentence(TERMS, "and 1 more in a THAW, if any side is FREE.");
        tale("9;9;9", thaw(0), straw(0, 1)).due(9, "block", 0, 1, 0);
        tale("9;9;9", thaw(0)).due(8, "block", 0, 1, 0);
        tale("9;9", thaw(0), straw(0, 1)).due(8, "block", 0, 1, 0);
        tale("9", thaw(0)).due(7, "block", 0, 0, 0);
        tale(";9", thaw(0)).due(7, "block", 0, 1, 0);
        Tale below = tale("99;9", thaw(0));
        below.due(9, "block", 0, 0, 0);
        below.due(7, "block", 0, 0, 1);
        tale("99", thaw(0)).due(8, "block", 0, 0, 0);
        tale("9;9;9", thaw(0), thaw(0)).due(8, "block", 0, 1, 0);
        tale(";9", thaw(0), door(0)).due(6, "block", 0, 1, 0);
    }

    private static void freeTop() {
        sentence(TERMS, "Its FREE sides are its top, if no BLOCK is on it, and no STRAW on the COLUMN;");
        Tale x = tale("99;99;99", thaw(0));
        x.due(9, "block", 0, 1, 0);
        x.due(8, "block", 0, 1, 1);
        Tale six = tale(SIX_BY_SIX, thaw(0));
        six.due(9, "block", 0, 2, 4);
        six.due(8, "block", 0, 2, 5);
        tale("99;99;99", thaw(0), straw(0, 1)).due(9, "block", 0, 1, 1);
        // its right is free, and its top, if it were, would make a 1 of it
        tale("99").due(9, "block", 0, 0, 0);
        tale("99;99", straw(0, 1)).due(9, "block", 0, 1, 1);
        tale("99;99").due(8, "block", 0, 1, 1);
    }

    private static void freeLeftAndRight() {
        sentence(TERMS, "its left and right, where there is a COLUMN beside that is lower than that");
        // all with straw, so that a side beside is the one that may be free, and a thaw to tell it
        Tale level = tale("99;99;99", thaw(0), straw(0, 0), straw(0, 1), straw(0, 2));
        level.due(9, "block", 0, 1, 1);
        level.due(9, "block", 0, 0, 1);
        Tale right = tale("99;99;9", thaw(0), straw(0, 0), straw(0, 1), straw(0, 2));
        right.due(9, "block", 0, 1, 0);
        right.due(8, "block", 0, 1, 1);
        Tale left = tale("9;99;99", thaw(0), straw(0, 0), straw(0, 1), straw(0, 2));
        left.due(9, "block", 0, 1, 0);
        left.due(8, "block", 0, 1, 1);
        Tale both = tale("9;99;9", straw(0, 1));
        both.due(9, "block", 0, 1, 0);
        both.due(8, "block", 0, 1, 1);
        // beside it one column is as high, the other bare: to the ground a side is free
        tale("99;99", thaw(0)).due(8, "block", 0, 1, 0);
        tale(";;;;99;99", thaw(0)).due(8, "block", 0, 4, 0);
        Tale higher = tale("99;9;99", thaw(0), straw(0, 1));
        higher.due(9, "block", 0, 1, 0);
        Tale highest = tale("99999;999999;99999", straw(0, 1));
        highest.due(9, "block", 0, 1, 4);
        highest.due(8, "block", 0, 1, 5);
    }

    private static void hill() {
        sentence(TERMS, "(the hill is beside COLUMNS 0 and 5: no side is FREE there).");
        tale("9;9", thaw(0), straw(0, 0)).due(9, "block", 0, 0, 0);
        tale(";;;;9;9", thaw(0), straw(0, 5)).due(9, "block", 0, 5, 0);
        tale("9", straw(0, 0)).due(9, "ice", 23, 0);
        tale(";;;;;9", straw(0, 5)).due(9, "ice", 23, 0);
        tale("999999;999999", thaw(0), straw(0, 0)).due(54, "column", 0, 0, 1);
        tale(";;;;999999;999999", thaw(0), straw(0, 5)).due(54, "column", 0, 5, 1);
        // but beside columns 1 and 4 it isn't
        tale(";9", straw(0, 1)).due(0, "ice", 23, 0);
        tale(";;;;9", straw(0, 4)).due(0, "ice", 23, 0);
    }

    private static void meltsIsWater() {
        sentence(TERMS, "What MELTS is WATER;");
        Tale x = tale("3", door(0), thaw(0));
        x.due(3, "ice", 0, 1);
        x.due(0, "ice", 0, 0);
        // no more can melt of a block than it has
        Tale one = tale("1", door(0), thaw(0));
        one.due(1, "ice", 0, 1);
        one.due(0, "ice", 1, 1);
        // what is taken isn't melted
        tale("9", "a9").due(0, "ice", 0, 1);
    }

    private static void nothingIsLeft() {
        sentence(TERMS, "a BLOCK of which nothing is left is not there any more, and those on it come down by 1.");
        Tale x = tale("193", thaw(0));
        x.due(2, "column", 0, 0, 0);
        x.due(8, "block", 0, 0, 0);
        x.due(1, "block", 0, 0, 1);
        x.due(0, "block", 0, 0, 2);
        Tale two = tale("1194", thaw(0));
        two.due(2, "column", 0, 0, 0);
        two.due(8, "block", 0, 0, 0);
        two.due(2, "block", 0, 0, 1);
        two.due(0, "block", 0, 0, 2);
        two.due(0, "block", 0, 0, 3);
        // those below the one that goes stay where they are
        Tale midst = tale("9199;9", thaw(0));
        midst.due(9, "block", 0, 0, 0);
        midst.due(8, "block", 0, 0, 1);
        midst.due(7, "block", 0, 0, 2);
        midst.due(0, "block", 0, 0, 3);
        Tale all = tale("111111", thaw(0));
        all.due(0, "column", 0, 0, 0);
        all.due(6, "ice", 0, 1);
        tale("2", thaw(0)).due(0, "column", 0, 0, 0);
        tale("3", thaw(0)).due(1, "column", 0, 0, 0);
    }

    // ---- behind a week

    private static void behindAWeek() {
        sentence(TERMS, "Behind a WEEK of a COLUMN: how high it is (how many BLOCKS); how much stands in it; "
            + "how great a BLOCK at a height (0 on) is; 0, where there is none.");
        Tale x = tale(SIX_BY_SIX);
        x.due(6, "column", 0, 5, 0);
        x.due(54, "column", 0, 5, 1);
        x.due(9, "block", 0, 5, 0);
        x.due(9, "block", 0, 5, 5);
        Tale y = tale("99");
        y.due(9, "block", 8, 0, 0);
        y.due(0, "block", 8, 0, 1);
        y.due(0, "block", 0, 0, 2);
        y.due(0, "block", 0, 1, 0);
        y.due(0, "column", 0, 1, 0);
        y.due(0, "column", 0, 1, 1);
        y.due(1, "block", 16, 0, 0);
        y.due(0, "block", 17, 0, 0);
        y.due(0, "column", 17, 0, 0);
        y.due(0, "column", 17, 0, 1);
    }

    private static void iceAndWater() {
        sentence(TERMS, "ICE: all that stands behind a WEEK; WATER that came in that WEEK.");
        Tale x = tale("2;;2;;;2");
        x.due(3, "ice", 0, 0);
        x.due(3, "ice", 0, 1);
        x.due(0, "ice", 1, 0);
        x.due(3, "ice", 1, 1);
        x.due(0, "ice", 2, 0);
        x.due(0, "ice", 2, 1);
        tale(SIX_BY_SIX).due(324, "ice", 23, 0);
    }

    private static void ofAnOrder() {
        sentence(TERMS, "Of an ORDER: what it has; whether it is SHORT.");
        Tale x = tale("9;9", "a9;a9;a1");
        x.due(9, "got", 1, 0);
        x.due(0, "got", 1, 1);
        x.due(0, "got", 2, 0);
        x.due(1, "got", 2, 1);
        Tale twelve = tale("9;9;9;9;9;9", "a9;a9;a9;a9;a9;a9;a9;a9;a9;a9;a9;a9");
        for (int order = 0; order < 12; order++) {
            twelve.due(order < 6 ? 9 : 0, "got", order, 0);
            twelve.due(order < 6 ? 0 : 1, "got", order, 1);
        }
        // as much as 8, and then 9 more
        Tale most = tale("98;1", "a9");
        most.due(17, "got", 0, 0);
    }

    private static void sumOfAll() {
        sentence(TERMS, "SUM: what all ORDERS have, together.");
        tale("9").due(0, "sum", 0);
        tale("9", "x1").due(0, "sum", 0);
        tale("9", "a1").due(9, "sum", 0);
        tale(SIX_BY_SIX, "a9;a9;a9;a9;a9;a9;a9;a9;a9;a9;a9;a9").due(108, "sum", 0);
    }

    private static void howManyAreShort() {
        sentence(TERMS, "SHORT: how many are.");
        tale("").due(0, "sum", 1);
        tale("9", "a9").due(0, "sum", 1);
        tale("9", "a9;x1").due(1, "sum", 1);
        tale("", TWELVE).due(12, "sum", 1);
        tale("9;9;9;9;9;9", "a9;a9;a9;a9;a9;a9;a9;a9;a9;a9;a9;a9").due(6, "sum", 1);
    }

    private static void bareFirst() {
        sentence(TERMS, "BARE of a COLUMN: the first WEEK behind which it is; NONE.");
        tale("").due(0, "bare", 0);
        tale("1").due(0, "bare", 0);
        tale("2").due(1, "bare", 0);
        tale("9", "a9").due(0, "bare", 0);
        tale("9", "x9", straw(0, 0)).due(23, "bare", 0);
        tale("9", straw(0, 0)).due(NONE, "bare", 0);
        tale(";;;;;9", straw(0, 5)).due(NONE, "bare", 5);
        tale("9", straw(8, 0)).due(NONE, "bare", 0);
        tale("9", straw(9, 0)).due(8, "bare", 0);
    }

    private static void lastFirst() {
        sentence(TERMS, "LAST: the first WEEK behind which there is no ICE; NONE.");
        tale("").due(0, "last");
        tale("1").due(0, "last");
        tale("2;;3").due(2, "last");
        tale("9", "x9", straw(0, 0)).due(23, "last");
        tale("9", straw(0, 0)).due(NONE, "last");
        tale("2;;;;;9", straw(0, 5)).due(NONE, "last");
    }

    private static void tallest() {
        sentence(TERMS, "TALL: the COLUMN that is highest behind WEEK 23, of like ones the least.");
        tale("").due(0, "tall");
        tale("9").due(0, "tall");
        tale(";;;;;9", straw(0, 5)).due(5, "tall");
        tale("9;9;9;9;9;9").due(0, "tall");
        Tale x = tale("9;99;99;9", straw(0, 0), straw(0, 1), straw(0, 2), straw(0, 3));
        x.due(1, "tall");
        // highest at first, but not behind week 23
        Tale y = tale("9;;;;;11", straw(0, 0));
        y.due(0, "tall");
        // highest ahead of the orders of week 23 alone
        Tale z = tale("1;;;;;22", "x4", straw(0, 0), straw(0, 5));
        z.due(2, "column", 22, 5, 0);
        z.due(0, "tall");
        // not how much, but how high
        Tale great = tale("9;;;;;11", straw(0, 0), straw(0, 5));
        great.due(5, "tall");
    }

    private static void drainMost() {
        sentence(TERMS, "DRAIN: the WEEK in which most WATER came, of like ones the least; how much.");
        Tale none = tale("");
        none.due(0, "drain", 0);
        none.due(0, "drain", 1);
        for (int week = 0; week < 24; week++) {
            Tale x = tale("9", straw(0, 0), thaw(week));
            x.due(week, "drain", 0);
            x.due(1, "drain", 1);
        }
        Tale like = tale("9", straw(0, 0), thaw(7), thaw(3));
        like.due(3, "drain", 0);
        like.due(1, "drain", 1);
        Tale first = tale("9");
        first.due(0, "drain", 0);
        first.due(1, "drain", 1);
        Tale most = tale("9", door(4));
        most.due(4, "drain", 0);
        most.due(2, "drain", 1);
    }

    // ---- promises 11 to 19

    private static Tale rich() {
        return tale(SIX_BY_SIX, TWELVE, thaw(3), straw(5, 2), door(23));
    }

    private static void column() {
        sentence(11, "How high it is (what = 0), how much stands in it (1).");
        Tale x = tale("999999;;;;;111111", straw(0, 0), straw(0, 5));
        for (int week : new int[] {0, 23}) {
            x.due(6, "column", week, 0, 0);
            x.due(54, "column", week, 0, 1);
            x.due(6, "column", week, 5, 0);
            x.due(6, "column", week, 5, 1);
            x.due(0, "column", week, 1, 0);
            x.due(0, "column", week, 4, 1);
        }
    }

    private static void columnRefused() {
        sentence(11, "BAD.");
        edges(WeeksBoundaries::rich, BAD, "column", range(0, 23), range(0, 5), range(0, 1));
    }

    private static void block() {
        sentence(12, "How great the BLOCK at a height (0 to 5) is; 0.");
        Tale x = tale("123456;12345;;;;987654", straw(0, 0), straw(0, 5));
        x.due(1, "block", 0, 0, 0);
        x.due(6, "block", 0, 0, 5);
        x.due(0, "block", 0, 1, 5);
        x.due(0, "block", 0, 2, 0);
        for (int week : new int[] {0, 23}) {
            x.due(9, "block", week, 5, 0);
            x.due(4, "block", week, 5, 5);
        }
    }

    private static void blockRefused() {
        sentence(12, "BAD.");
        edges(WeeksBoundaries::rich, BAD, "block", range(0, 23), range(0, 5), range(0, 5));
    }

    private static void ice() {
        sentence(13, "ICE (what = 0), WATER that came in it (1).");
        Tale x = tale("9", straw(0, 0), thaw(0), thaw(23));
        x.due(8, "ice", 0, 0);
        x.due(1, "ice", 0, 1);
        x.due(8, "ice", 22, 0);
        x.due(0, "ice", 22, 1);
        x.due(7, "ice", 23, 0);
        x.due(1, "ice", 23, 1);
    }

    private static void iceRefused() {
        sentence(13, "BAD.");
        edges(WeeksBoundaries::rich, BAD, "ice", range(0, 23), range(0, 1));
    }

    private static void got() {
        sentence(14, "What it has (what = 0), whether it is SHORT (1: 1, 0).");
        Tale x = tale("9", "a9;x1");
        x.due(9, "got", 0, 0);
        x.due(0, "got", 0, 1);
        x.due(0, "got", 1, 0);
        x.due(1, "got", 1, 1);
    }

    private static void gotRefused() {
        sentence(14, "BAD.");
        edges(WeeksBoundaries::rich, BAD, "got", range(0, 11), range(0, 1));
        edges(() -> tale("9", "a1"), BAD, "got", range(0, 0), range(0, 1));
        for (int order : new int[] {-1, 0, 1}) tale("9").due(BAD, "got", order, 0);
    }

    private static void sum() {
        sentence(15, "SUM (what = 0), SHORT (1).");
        Tale x = tale("9", "a9;x1");
        x.due(9, "sum", 0);
        x.due(1, "sum", 1);
        x.call("wipe", 1);
        x.due(0, "sum", 0);
        x.due(0, "sum", 1);
    }

    private static void sumRefused() {
        sentence(15, "BAD.");
        edges(WeeksBoundaries::rich, BAD, "sum", range(0, 1));
    }

    private static void bare() {
        sentence(16, "BARE; NONE.");
        Tale x = tale("9;;;;;1", straw(0, 0));
        x.due(NONE, "bare", 0);
        x.due(0, "bare", 1);
        x.due(0, "bare", 5);
        x.type(1, "x9");
        x.due(23, "bare", 0);
    }

    private static void bareRefused() {
        sentence(16, "BAD.");
        edges(WeeksBoundaries::rich, BAD, "bare", range(0, 5));
    }

    private static void last() {
        sentence(17, "LAST; NONE.");
        Tale x = tale("9;;;;;1", straw(0, 0));
        x.due(NONE, "last");
        x.type(1, "x9");
        x.due(23, "last");
        x.call("wipe", 0);
        x.due(0, "last");
    }

    private static void tall() {
        sentence(18, "TALL.");
        tale("").due(0, "tall");
        tale(SIX_BY_SIX).due(0, "tall");
        tale(";;;;;1", straw(0, 5)).due(5, "tall");
    }

    private static void drain() {
        sentence(19, "DRAIN: the WEEK (what = 0), how much (1).");
        Tale x = tale("99", thaw(23));
        x.due(0, "drain", 0);
        x.due(1, "drain", 1);
        Tale y = tale("99999", thaw(23));
        y.due(23, "drain", 0);
        y.due(4, "drain", 1);
    }

    private static void drainRefused() {
        sentence(19, "BAD.");
        edges(WeeksBoundaries::rich, BAD, "drain", range(0, 1));
    }
}
