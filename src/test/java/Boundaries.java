import java.io.IOException;
import java.io.UncheckedIOException;
import java.util.function.Supplier;

/** What the tests of boundary cases share: each begins with the sentence of the document that it holds the class to. */
abstract class Boundaries {
    static final int NONE = -1, BAD = -2, NOT = -3, FULL = -4;
    static final int NULL = -11, INDEX = -12, CAST = -13, STORE = -14, SIZE = -15;
    static final int LEAST = Integer.MIN_VALUE, MOST = Integer.MAX_VALUE;
    static final int DOOR = 0, THAW = 1, STRAW = 2;
    static final int BYTES = 0, SHORTS = 1, INTS = 2;
    static final String SIX_BY_SIX = "999999;999999;999999;999999;999999;999999";
    static final String TWELVE = "a1;b2;c3;d4;e5;f6;g7;h8;i9;j1;k2;x3";
    static final String TERMS = "Terms";
    private static final int MOST_SHOWN = 20;

    private static final Document DOCUMENT = read();
    private static String sentence = "";
    private static int looks = 0;
    private static int wrong = 0;
    private static int sentences = 0;

    private static Document read() {
        try {
            return new Document();
        } catch (IOException failed) {
            throw new UncheckedIOException(failed);
        }
    }

    static void sentence(int promise, String words) {
        sentence("Promise " + promise, words);
    }

    static void sentence(String section, String words) {
        endSentence();
        sentence = section + ": \"" + words + "\"";
        sentences++;
        if (!DOCUMENT.quote(section, words)) tell("the document does not say so");
    }

    private static void endSentence() {
        if (looks == 0 && !sentence.isEmpty()) tell("nothing was looked at");
        looks = 0;
    }

    private static void tell(String what) {
        wrong++;
        if (wrong <= MOST_SHOWN) System.out.println(sentence + "\n    " + what);
    }

    static void look(boolean holds, String what, Tale tale) {
        looks++;
        if (!holds) tell(String.join("\n    ", tale.latestRows()) + ", " + what);
    }

    /** How many answers were not as due; a word of the document that no test quotes is one more. */
    static int end() {
        endSentence();
        sentence = "the document";
        for (String left : DOCUMENT.left()) tell("no test quotes " + left);
        return wrong;
    }

    static int sentences() {
        return sentences;
    }

    // ---- houses

    static Tale tale(String blocks, String orders, int[]... events) {
        Tale x = new Tale().type(0, blocks).type(1, orders);
        for (int[] event : events) x.call("event", event);
        return x;
    }

    static Tale tale(String blocks, int[]... events) {
        return tale(blocks, "", events);
    }

    static int[] door(int week) {
        return new int[] {DOOR, week, 0};
    }

    static int[] thaw(int week) {
        return new int[] {THAW, week, 0};
    }

    static int[] straw(int week, int column) {
        return new int[] {STRAW, week, column};
    }

    // ---- edges of arguments

    static int[] range(int least, int most) {
        return new int[] {least, most};
    }

    /** Each argument at, just beyond and far beyond its edges, with those of all others: BAD, unless all are as told. */
    static void edges(Supplier<Tale> fresh, long bad, String name, int[]... ranges) {
        edgesFrom(0, new int[ranges.length], true, fresh, bad, name, ranges);
    }

    private static void edgesFrom(int k, int[] args, boolean inside, Supplier<Tale> fresh, long bad, String name, int[]... ranges) {
        if (k == args.length) {
            if (inside) fresh.get().notDue(bad, name, args);
            else fresh.get().due(bad, name, args);
            return;
        }
        int least = ranges[k][0], most = ranges[k][1];
        for (int value : new int[] {least - 1, least, most, most + 1, LEAST, MOST}) {
            args[k] = value;
            edgesFrom(k + 1, args, inside && least <= value && value <= most, fresh, bad, name, ranges);
        }
    }
}
