import java.lang.reflect.Method;
import java.util.ArrayDeque;
import java.util.Arrays;
import java.util.Deque;
import java.util.LinkedHashMap;
import java.util.Map;
import java.util.Random;

/** Runs of calls by fixed seeds, on the class and on the Oracle: every answer must be the same. */
public final class OracleTest {
    private static final int RUNS = 400, CALLS = 160, MOST_TOLD = 20;
    private static final int[] WILD = {-1, -2, 6, 7, 8, 9, 12, 24, 60, 61, 256, Integer.MAX_VALUE, Integer.MIN_VALUE};

    /** For each call the greatest number of each argument (from 0 on), as the document tells. */
    private static final Map<String, int[]> RANGES = new LinkedHashMap<>();
    static {
        range("type", 1, 255); range("wipe", 1); range("undo", 1); range("fault", 1); range("told", 5, 5);
        range("order", 11, 1); range("event", 2, 23, 5); range("back"); range("read", 3);
        range("column", 23, 5, 1); range("block", 23, 5, 5); range("ice", 23, 1); range("got", 11, 1);
        range("sum", 1); range("bare", 5); range("last"); range("tall"); range("drain", 1);
        range("cover", 1); range("swap", 2); range("later", 11, 1); range("spare", 1);
        range("seen", 23, 5, 6); range("forget"); range("never"); range("size", 5, 5); range("ask", 5, 5);
        range("chance", 16, 11, 1); range("summers", 255, 8, 1);
        range("sheet", 3, 2, 60); range("lose", 3); range("lay", 3, 2, 59, 70000); range("get", 3, 2, 59);
        range("copy", 3, 59, 3, 59, 60); range("write", 5, 3); range("count", 8);
    }

    private static void range(String name, int... most) {
        RANGES.put(name, most);
    }

    private static Method method(Class<?> of, String name) throws Exception {
        Class<?>[] types = new Class<?>[name.equals("digest") ? 0 : RANGES.get(name).length];
        Arrays.fill(types, int.class);
        return of.getMethod(name, types);
    }

    private final Random random;
    private final IceHouse house = new IceHouse();
    private final Oracle oracle = new Oracle();
    private final Deque<String> told = new ArrayDeque<>();
    private boolean right = true;

    private OracleTest(long seed) {
        random = new Random(seed);
    }

    public static void main(String[] args) throws Exception {
        int wrong = 0;
        for (int run = 0; run < RUNS && wrong < 5; run++) {
            OracleTest test = new OracleTest(run);
            test.run();
            if (!test.right) {
                wrong++;
                System.out.println("run by seed " + run + ", the latest calls:");
                test.told.forEach(System.out::println);
            }
        }
        System.out.println(wrong == 0 ? "all answers are as the oracle's" : wrong + " runs differ");
        if (wrong != 0) System.exit(1);
    }

    private void call(String name, Integer... args) throws Exception {
        if (!right) return;
        long due = ((Number) callOf(Oracle.class, name).invoke(oracle, (Object[]) args)).longValue();
        long got = ((Number) callOf(IceHouse.class, name).invoke(house, (Object[]) args)).longValue();
        told.add(name + Arrays.toString(args) + " answered " + got + (got == due ? "" : ", due is " + due));
        if (told.size() > MOST_TOLD) told.remove();
        right = got == due;
    }

    private static Method callOf(Class<?> of, String name) throws Exception {
        Method found = method(of, name);
        found.setAccessible(true);
        return found;
    }

    private void run() throws Exception {
        typeAll(0, someBlocks());
        typeAll(1, someOrders());
        for (int e = random.nextInt(10); e > 0; e--)
            call("event", random.nextInt(3), random.nextInt(random.nextBoolean() ? 24 : 6), random.nextInt(6));
        layEvents();
        String[] names = RANGES.keySet().toArray(new String[0]);
        for (int n = 0; n < CALLS && right; n++) {
            String name = names[random.nextInt(names.length)];
            // what ends the tale of a run comes seldom, so that most calls have much to tell
            boolean seldom = name.equals("wipe") || name.equals("type") || name.equals("undo") || name.equals("read");
            if (seldom && random.nextInt(4) != 0) continue;
            if (name.equals("chance") && random.nextInt(3) != 0) continue;
            call(name, someArguments(RANGES.get(name)));
            if (seldom) mendTexts();
        }
        lookBack();
        call("count", 8);
        if (random.nextInt(8) == 0) call("digest");
    }

    private Integer[] someArguments(int[] most) {
        Integer[] args = new Integer[most.length];
        boolean wild = random.nextInt(8) == 0;
        for (int i = 0; i < args.length; i++) {
            args[i] = random.nextInt(most[i] + 1);
            if (most[i] == 11 && random.nextInt(3) != 0) args[i] = random.nextInt(4);
            if (most[i] == 59 && random.nextInt(3) != 0) args[i] = random.nextInt(6);
            if (most[i] == 60 && random.nextInt(3) != 0) args[i] = random.nextInt(12);
            if (most[i] == 255 || most[i] == 70000) args[i] = random.nextBoolean() ? args[i] : random.nextInt();
        }
        if (wild && args.length > 0) args[random.nextInt(args.length)] = WILD[random.nextInt(WILD.length)];
        return args;
    }

    private void typeAll(int text, String bytes) throws Exception {
        call("wipe", text);
        for (char b : bytes.toCharArray()) call("type", text, (int) b);
        call("fault", text);
    }

    private void mendTexts() throws Exception {
        call("fault", 0);
        call("fault", 1);
        if (oracle.fault(0) != -1 || oracle.count(0) == 0) typeAll(0, someBlocks());
        if (oracle.fault(1) != -1 || oracle.count(1) == 0) typeAll(1, someOrders());
    }

    private String someBlocks() {
        StringBuilder text = new StringBuilder();
        int columns = 1 + random.nextInt(6), least = 1 + random.nextInt(9);
        for (int c = 0; c < columns; c++) {
            if (c > 0) text.append(';');
            for (int h = random.nextInt(7); h > 0; h--) text.append((char) ('0' + least + random.nextInt(10 - least)));
        }
        return perhapsSpoilt(text);
    }

    private String someOrders() {
        StringBuilder text = new StringBuilder();
        int orders = random.nextInt(13), weeks = random.nextBoolean() ? 24 : 8;
        for (int o = 0; o < orders; o++) {
            if (o > 0) text.append(';');
            text.append((char) ('a' + random.nextInt(weeks))).append((char) ('1' + random.nextInt(9)));
        }
        return perhapsSpoilt(text);
    }

    private String perhapsSpoilt(StringBuilder text) {
        if (random.nextInt(8) == 0) {
            String odd = "0:;`ay9x \0" + (char) 255 + (char) 200;
            text.insert(random.nextInt(text.length() + 1), odd.charAt(random.nextInt(odd.length())));
        }
        return text.toString();
    }

    private void layEvents() throws Exception {
        int s = random.nextInt(4), form = random.nextInt(3), n = random.nextInt(31);
        call("sheet", s, form, n);
        for (int i = 0; i < n; i++)
            call("lay", s, form, i, random.nextInt(i % 3 == 1 ? 24 : 3) + (random.nextInt(20) == 0 ? 256 : 0));
        if (random.nextBoolean()) call("read", s);
    }

    private void lookBack() throws Exception {
        // what was seen had better be near the truth, or nothing ever fits it
        call("forget");
        for (int k = random.nextInt(4); k > 0; k--) {
            int week = random.nextInt(10), column = random.nextInt(6);
            call("seen", week, column, Math.max(0, oracle.column(week, column, 0) - random.nextInt(2)));
        }
        call("never");
        for (int c = 0; c < 6; c++) {
            int h = random.nextInt(6);
            call("size", c, h);
            call("ask", c, h);
        }
    }
}
