import java.util.ArrayList;
import java.util.List;
import java.util.function.Supplier;

/** Refusals: the order among them, that they change nothing, and how a long tells them. */
final class RefusalBoundaries extends Boundaries {
    /** A call that is refused, and by what. */
    private record Refused(long answer, int finding, String name, int... args) { }

    static void run() {
        firstThatFits(); badFirst(); changeNothing(); asALong();
    }

    /** Nothing more has room in it: both texts, events and what was seen are full; sheet 3 is lost. */
    private static Tale full() {
        Tale x = tale(SIX_BY_SIX, TWELVE, straw(0, 0), thaw(0), door(1), thaw(2), straw(3, 4), thaw(9), door(9), thaw(23));
        // seen as it is, so that anything told otherwise tells on itself by what fits
        for (int n = 0; n < 8; n++) x.call("seen", n, n % 6, (int) x.call("column", n, n % 6, 0));
        return x.row(0, BYTES, 1, 2, 3).row(1, SHORTS, 4, 5, 6).row(2, INTS, 7, 8, 9);
    }

    private static void firstThatFits() {
        sentence(TERMS, "Refusals, the first that fits, in the order told at each act:");
        full().due(BAD, "type", 0, 256);
        full().due(BAD, "type", 2, '1');
        full().due(BAD, "event", 0, 0, 6);
        full().due(BAD, "event", 3, 0, 0);
        full().due(BAD, "seen", 0, 0, 7);
        full().due(BAD, "seen", 24, 0, 0);
        new Tale().due(BAD, "undo", 2);
        new Tale().due(BAD, "size", 6, 0);
        full().due(BAD, "sheet", 4, BYTES, -1);
        full().due(BAD, "sheet", 0, 3, -1);
        full().due(BAD, "lay", 3, 3, -1, 0);
        full().due(NULL, "lay", 3, BYTES, -1, 0);
        full().due(CAST, "lay", 0, INTS, -1, 0);
        full().due(INDEX, "lay", 0, BYTES, -1, 0);
        full().due(BAD, "copy", 3, -1, 4, -1, -1);
        full().due(NULL, "copy", 3, -1, 0, -1, -1);
        full().due(NULL, "copy", 0, -1, 3, -1, -1);
        full().due(STORE, "copy", 0, -1, 1, -1, -1);
        full().due(INDEX, "copy", 0, -1, 0, -1, -1);
        full().due(BAD, "write", 6, 3);
        full().due(NULL, "write", 5, 3);
        int[][] getAndFinding = {{3, 3, -1, 0}, {3, 0, -1, 1}, {0, 2, -1, 3}, {0, 0, -1, 2}};
        for (int[] it : getAndFinding) {
            Tale x = full();
            x.due(LEAST, "get", it[0], it[1], it[2]);
            x.due(it[3], "count", 8);
        }
    }

    private static void badFirst() {
        sentence(TERMS, "BAD -2 (a number not as told, no such thing), NULL, NOT -3 (as told), FULL -4, other FINDINGS.");
        Tale x = full();
        x.due(-2, "told", 6, 0);
        x.due(-2, "order", 12, 0);
        x.due(-2, "count", 9);
        x.due(-11, "lose", 3);
        x.due(-4, "type", 0, '1');
        x.due(-4, "event", 0, 0, 0);
        x.due(-4, "seen", 0, 0, 0);
        x.due(-12, "lay", 0, BYTES, 3, 0);
        Tale empty = new Tale();
        empty.due(-3, "back");
        empty.due(-3, "undo", 0);
        look(IceHouse.NONE == -1 && IceHouse.BAD == -2 && IceHouse.NOT == -3 && IceHouse.FULL == -4, "the constants", empty);
    }

    private static List<Refused> refusedWhenFull() {
        List<Refused> all = new ArrayList<>(List.of(
            new Refused(FULL, 0, "type", 0, '1'), new Refused(FULL, 0, "type", 1, 'a'), new Refused(BAD, 0, "type", 0, 256),
            new Refused(BAD, 0, "type", 2, 0), new Refused(BAD, 0, "wipe", 2), new Refused(BAD, 0, "wipe", -1),
            new Refused(BAD, 0, "undo", 2), new Refused(BAD, 0, "undo", -1), new Refused(BAD, 0, "fault", 2),
            new Refused(BAD, 0, "told", 6, 0), new Refused(BAD, 0, "order", 12, 0),
            new Refused(FULL, 0, "event", 0, 0, 0), new Refused(BAD, 0, "event", 3, 0, 0), new Refused(BAD, 0, "event", 0, 24, 0),
            new Refused(BAD, 0, "event", 0, 0, 6), new Refused(BAD, 0, "read", 4), new Refused(NULL, 1, "read", 3),
            new Refused(BAD, 0, "column", 24, 0, 0), new Refused(BAD, 0, "block", 0, 0, 6), new Refused(BAD, 0, "ice", 0, 2),
            new Refused(BAD, 0, "got", 12, 0), new Refused(BAD, 0, "sum", 2), new Refused(BAD, 0, "bare", 6),
            new Refused(BAD, 0, "drain", 2), new Refused(BAD, 0, "cover", 2), new Refused(BAD, 0, "swap", 3),
            new Refused(BAD, 0, "later", 12, 0), new Refused(BAD, 0, "spare", 2), new Refused(BAD, 0, "spare", -2)));
        all.addAll(List.of(
            new Refused(FULL, 0, "seen", 0, 0, 0), new Refused(BAD, 0, "seen", 0, 0, 7), new Refused(BAD, 0, "seen", 24, 0, 0),
            new Refused(BAD, 0, "size", 6, 0), new Refused(BAD, 0, "ask", 0, 6),
            new Refused(Long.MIN_VALUE + 2, 0, "chance", 17, 0, 0), new Refused(BAD, 0, "summers", 0, 9, 0),
            new Refused(BAD, 0, "sheet", 4, 0, 0), new Refused(BAD, 0, "sheet", 0, 3, 0), new Refused(BAD, 0, "sheet", 0, 0, 61),
            new Refused(SIZE, 5, "sheet", 0, 0, -1), new Refused(BAD, 0, "lose", 4), new Refused(NULL, 1, "lose", 3),
            new Refused(BAD, 0, "lay", 4, 0, 0, 9), new Refused(BAD, 0, "lay", 0, 3, 0, 9), new Refused(NULL, 1, "lay", 3, 0, 0, 9),
            new Refused(CAST, 3, "lay", 0, 1, 0, 9), new Refused(INDEX, 2, "lay", 0, 0, 3, 9), new Refused(INDEX, 2, "lay", 0, 0, -1, 9),
            new Refused(LEAST, 0, "get", 4, 0, 0), new Refused(LEAST, 0, "get", 0, 3, 0), new Refused(LEAST, 1, "get", 3, 0, 0),
            new Refused(LEAST, 3, "get", 0, 1, 0), new Refused(LEAST, 2, "get", 0, 0, 3),
            new Refused(BAD, 0, "copy", 4, 0, 0, 0, 1), new Refused(BAD, 0, "copy", 0, 0, 4, 0, 1),
            new Refused(NULL, 1, "copy", 3, 0, 0, 0, 1), new Refused(NULL, 1, "copy", 0, 0, 3, 0, 1),
            new Refused(STORE, 4, "copy", 0, 0, 1, 0, 1), new Refused(INDEX, 2, "copy", 0, 1, 0, 0, 3),
            new Refused(INDEX, 2, "copy", 0, 0, 0, 1, 3), new Refused(BAD, 0, "write", 6, 0), new Refused(BAD, 0, "write", 0, 4),
            new Refused(NULL, 1, "write", 0, 3), new Refused(BAD, 0, "count", 9), new Refused(BAD, 0, "count", -1)));
        return all;
    }

    private static List<Refused> refusedWhenEmpty() {
        return List.of(new Refused(NOT, 0, "undo", 0), new Refused(NOT, 0, "undo", 1), new Refused(NOT, 0, "back"),
            new Refused(BAD, 0, "order", 0, 0), new Refused(BAD, 0, "got", 0, 0), new Refused(BAD, 0, "later", 0, 0),
            new Refused(BAD, 0, "size", 0, 0), new Refused(BAD, 0, "ask", 0, 0), new Refused(NULL, 1, "read", 0),
            new Refused(NULL, 1, "copy", 0, 0, 0, 0, 0));
    }

    private static void changeNothing() {
        sentence(TERMS, "They change nothing (FINDINGS but count() 8).");
        noneChangesAnything(RefusalBoundaries::full, refusedWhenFull());
        noneChangesAnything(Tale::new, refusedWhenEmpty());
    }

    private static void noneChangesAnything(Supplier<Tale> fresh, List<Refused> all) {
        List<Long> unchanged = everything(fresh.get());
        for (Refused it : all) {
            Tale x = fresh.get();
            x.due(it.answer(), it.name(), it.args());
            x.due(it.finding(), "count", 8);
            look(everything(x).equals(unchanged), "but " + it.name() + " changed something ahead of these calls", x);
        }
    }

    /** All that can be asked of an object, at the cost of taking it apart. */
    private static List<Long> everything(Tale x) {
        List<Long> all = new ArrayList<>();
        all.add(x.call("digest"));
        for (int s = 0; s < 4; s++) {
            for (int form = 0; form < 3; form++)
                for (int i = 0; i < 4; i++) all.add(x.call("get", s, form, i));
            all.add(x.call("lose", s));
        }
        for (int n = 0; n < 9; n++) {
            all.add(x.call("never"));
            all.add(x.call("count", 5));
            all.add(x.call("drain", 0));
            all.add(x.call("drain", 1));
            all.add(x.call("back"));
        }
        all.add(x.call("forget"));
        for (int text = 0; text < 2; text++)
            for (int n = 0; n < 42; n++) {
                all.add(x.call("fault", text));
                all.add(x.call("undo", text));
            }
        return all;
    }

    private static void asALong() {
        sentence(TERMS, "Where the answer is a long, a refusal -x is the least long and x more.");
        Tale x = tale("9", "a1");
        for (int[] wrong : new int[][] {{-1, 0, 0}, {17, 0, 0}, {0, -1, 0}, {0, 1, 0}, {0, 0, -1}, {0, 0, 2}})
            x.due(-9223372036854775806L, "chance", wrong);
        new Tale().due(-9223372036854775806L, "chance", 0, 0, 0);
    }
}
