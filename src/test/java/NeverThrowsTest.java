import java.lang.reflect.InvocationTargetException;
import java.lang.reflect.Method;
import java.lang.reflect.Modifier;
import java.util.Arrays;
import java.util.Comparator;
import java.util.Random;
import java.util.function.Supplier;

/** Each call by numbers at every bound and far off, in states of many kinds: it answers, and throws nothing. */
public final class NeverThrowsTest {
    private static final int[] EDGES = {Integer.MIN_VALUE, Integer.MIN_VALUE + 1, -129, -9, -1, 0, 1, 2, 3, 4, 5, 6, 7, 8, 9, 10, 11, 12, 13,
        20, 21, 39, 40, 41, 54, 55, 59, 60, 61, 99, 100, 127, 128, Integer.MAX_VALUE - 1, Integer.MAX_VALUE};
    private static final int MOST_WAYS = 1500;
    private static final String SIX = "h40g9110s9125p9107w9030l9119e9102";

    public static void main(String[] args) throws Exception {
        byEachCall("a new one", SluiceLevels::new);
        byEachCall("ROWS and TEXTS alone", NeverThrowsTest::rowsAndTexts);
        byEachCall("empty ROWS and TEXTS", NeverThrowsTest::emptyOnes);
        byEachCall("six GATES", () -> Due.with(SIX));
        byEachCall("one WEIR", () -> Due.with("h60w9000"));
        byEachCall("forty DEEDS, kept", NeverThrowsTest::fortyDeeds);
        longRuns();
        Due.end();
    }

    private static SluiceLevels rowsAndTexts() {
        SluiceLevels x = new SluiceLevels();
        for (int r = 0; r < 6; r++) {
            x.row(r, 40);
            x.lay(r, 39, Integer.MIN_VALUE);
        }
        for (int t = 0; t < 4; t++) {
            x.text(t, 60);
            x.put(t, 0, 104);
            x.put(t, 59, 101);
        }
        return x;
    }

    private static SluiceLevels emptyOnes() {
        SluiceLevels x = new SluiceLevels();
        for (int r = 0; r < 6; r++) {
            x.row(r, 0);
        }
        for (int t = 0; t < 4; t++) {
            x.text(t, 0);
        }
        return x;
    }

    private static SluiceLevels fortyDeeds() {
        SluiceLevels x = Due.with(SIX);
        Due.fill(x, 0, 20, 0, 60);
        Due.fill(x, 5, 0, 0, 0, 0, 0, 0, 0, 0, 0, 0);
        x.lots(20, 2147483646);
        x.keep(0);
        x.lots(20, 1);
        x.keep(2);
        return x;
    }

    private static Method[] calls() {
        Method[] all = SluiceLevels.class.getDeclaredMethods();
        Method[] open = Arrays.stream(all).filter(m -> Modifier.isPublic(m.getModifiers())).toArray(Method[]::new);
        Arrays.sort(open, Comparator.comparing(Method::getName));
        return open;
    }

    /** Each object takes up to 400 calls: what is done behind 512 of them is looked at in longRuns(). */
    private static void byEachCall(String state, Supplier<SluiceLevels> made) throws Exception {
        for (Method call : calls()) {
            int places = call.getParameterCount();
            long ways = (long) Math.pow(EDGES.length, places);
            Random random = new Random(places);
            SluiceLevels x = made.get();
            for (long way = 0; way < Math.min(ways, MOST_WAYS); way++) {
                x = way % 400 == 399 ? made.get() : x;
                answers(state, x, call, numbers(places, ways <= MOST_WAYS ? way : random.nextLong(ways)));
            }
        }
    }

    private static Object[] numbers(int places, long way) {
        Object[] numbers = new Object[places];
        long left = way;
        for (int k = 0; k < places; k++) {
            numbers[k] = EDGES[(int) (left % EDGES.length)];
            left /= EDGES.length;
        }
        return numbers;
    }

    private static void answers(String when, SluiceLevels x, Method call, Object[] numbers) throws Exception {
        String thrown = "";
        try {
            call.invoke(x, numbers);
        } catch (InvocationTargetException e) {
            thrown = " throws " + e.getCause();
        }
        Due.is(when + ", " + call.getName() + Arrays.toString(numbers) + thrown, thrown.length(), 0);
    }

    /** Behind its 512th call an object's answers are free, but it throws nothing then, too. */
    private static void longRuns() throws Exception {
        Method[] calls = calls();
        for (int run = 0; run < 20; run++) {
            Random random = new Random(run);
            SluiceLevels x = run % 2 == 0 ? new SluiceLevels() : fortyDeeds();
            for (int n = 0; n < 3000; n++) {
                Method call = calls[random.nextInt(calls.length)];
                long ways = (long) Math.pow(EDGES.length, call.getParameterCount());
                answers("run " + run + ", call " + n, x, call, numbers(call.getParameterCount(), random.nextLong(ways)));
            }
        }
    }
}
