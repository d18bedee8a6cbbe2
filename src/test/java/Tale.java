import java.lang.reflect.InvocationTargetException;
import java.lang.reflect.Method;
import java.util.ArrayList;
import java.util.Arrays;
import java.util.HashMap;
import java.util.List;
import java.util.Map;

/** A run of calls on a new object, kept so that a wrong answer is told with the calls that led to it. */
final class Tale {
    /** What calls beyond these answer is free, so no test may lean on it. */
    private static final int MOST_CALLS = 512;
    private static final int MOST_TOLD = 16;
    /** No call may throw; one that does is told, and the run goes on with an answer that is never due. */
    private static final long THREW = 1L << 62;
    private static final Map<String, Method> FACE = new HashMap<>();
    static {
        for (Method method : IceHouse.class.getDeclaredMethods()) FACE.put(method.getName(), method);
    }

    private final IceHouse house = new IceHouse();
    private final List<String> rows = new ArrayList<>();
    private int calls = 0;

    long call(String name, int... args) {
        String row = name + Arrays.toString(args).replace('[', '(').replace(']', ')');
        long answer = answer(name, args);
        rows.add(row + " answered " + answer);
        return answer;
    }

    private long answer(String name, int... args) {
        if (calls == MOST_CALLS) throw new IllegalStateException("more calls than are promised, behind " + rows);
        calls++;
        try {
            return ((Number) FACE.get(name).invoke(house, Arrays.stream(args).boxed().toArray())).longValue();
        } catch (InvocationTargetException thrown) {
            Boundaries.look(false, "but " + name + Arrays.toString(args) + " threw " + thrown.getCause(), this);
            return THREW;
        } catch (IllegalAccessException hidden) {
            throw new IllegalStateException(hidden);
        }
    }

    void due(long want, String name, int... args) {
        long got = call(name, args);
        Boundaries.look(got == want, "due is " + want, this);
    }

    void notDue(long other, String name, int... args) {
        long got = call(name, args);
        Boundaries.look(got != other, "due is anything but that", this);
    }

    Tale type(int text, String bytes) {
        for (char b : bytes.toCharArray()) answer("type", text, b);
        rows.add("typed to text " + text + ": \"" + bytes + "\"");
        return this;
    }

    /** A sheet with these items. */
    Tale row(int s, int form, int... items) {
        call("sheet", s, form, items.length);
        for (int i = 0; i < items.length; i++) call("lay", s, form, i, items[i]);
        return this;
    }

    int calls() {
        return calls;
    }

    List<String> latestRows() {
        return rows.subList(Math.max(0, rows.size() - MOST_TOLD), rows.size());
    }
}
