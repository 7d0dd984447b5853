import java.lang.reflect.InvocationTargetException;
import java.lang.reflect.Method;
import java.util.ArrayList;
import java.util.Comparator;
import java.util.List;
import java.util.Map;
import java.util.function.Function;
import java.util.function.IntUnaryOperator;
import java.util.function.Predicate;
import java.util.function.ToIntFunction;

/**
 * What the edge tests share. A test is a method with @Says whose name begins with its promise (p07_...); it tells the
 * words of the document that would be broken if it failed.
 */
abstract class Edges {
    static final int NONE = BornAboard.NONE;
    static final int MIN = Integer.MIN_VALUE;
    static final int MAX = Integer.MAX_VALUE;
    // Which count of status() a call that is refused adds to; NONE for calls that are not counted.
    static final int TAPE = 0;
    static final int LINE = 1;
    static final int CHANGE = 2;
    static final int YEARS = 3;
    static final int UNDO = 4;
    static final int SEED = 5;
    private static final int[] FAR = {-2, -10, -32, -256, MIN, MIN + 1, 32, 64, 128, 256, 1024, 65536, 1 << 30, MAX - 1, MAX};
    final Check check = new Check();

    interface Calls {
        void on(BornAboard x);
    }

    static List<Method> tests(Class<?> type) {
        List<Method> tests = new ArrayList<>();
        for (Method method : type.getDeclaredMethods()) {
            if (method.isAnnotationPresent(Says.class)) {
                tests.add(method);
            }
        }
        tests.sort(Comparator.comparing(Method::getName));
        return tests;
    }

    final void runAll() {
        for (Method test : tests(getClass())) {
            check.begin(test.getName());
            try {
                test.invoke(this);
            } catch (InvocationTargetException e) {
                check.threw(e.getCause());
            } catch (IllegalAccessException e) {
                check.threw(e);
            }
        }
        check.finish();
    }

    /** A line with a past: a refused text, acts, an image, a seed, and the head of a text on the tape. */
    static void start(BornAboard x) {
        Check.tell(x, Lines.SMALL);
        Check.tell(x, "stop 31;");
        x.hire(1, true);
        x.wish(0, 3);
        x.move(2, 0);
        x.day();
        x.years(2);
        x.image();
        x.hire(2, true);
        x.seed(777);
        Check.put(x, "station left;station righ");
    }

    static BornAboard started() {
        BornAboard x = new BornAboard();
        start(x);
        return x;
    }

    /** All that can be asked behind the call is as if it had not been, but that it is counted as refused. */
    final void changesNothing(String what, Calls start, Calls call, int kind) {
        changesOnly(what, start, call, x -> { }, kind);
    }

    /** As above, but for what the document names: that is told by calls of its own. */
    final void changesOnly(String what, Calls start, Calls call, Calls named, int kind) {
        for (Function<BornAboard, Map<String, Integer>> sight : Sight.ALL) {
            BornAboard x = new BornAboard();
            start.on(x);
            call.on(x);
            BornAboard y = new BornAboard();
            start.on(y);
            named.on(y);
            Map<String, Integer> got = sight.apply(x);
            Map<String, Integer> due = sight.apply(y);
            check.is(what + ": as much is seen", got.size(), due.size());
            for (Map.Entry<String, Integer> row : due.entrySet()) {
                int more = row.getKey().equals("status(" + kind + ")") ? 1 : 0;
                check.is(what + ": " + row.getKey(), got.getOrDefault(row.getKey(), MIN), row.getValue() + more);
            }
        }
    }

    /** The call answers false, is counted, and changes nothing else. */
    final void denies(String what, Calls start, Predicate<BornAboard> call, int kind) {
        BornAboard x = new BornAboard();
        start.on(x);
        check.is(what, call.test(x), false);
        changesNothing(what, start, call::test, kind);
    }

    /** The call answers NONE, is counted, and changes nothing else. */
    final void refuses(String what, Calls start, ToIntFunction<BornAboard> call, int kind) {
        BornAboard x = new BornAboard();
        start.on(x);
        check.is(what, call.applyAsInt(x), NONE);
        changesNothing(what, start, call::applyAsInt, kind);
    }

    /** A question answers NONE for each number that is not 0 .. most, near or far. */
    final void noneOutside(String what, int most, IntUnaryOperator ask) {
        check.is(what + " of -1", ask.applyAsInt(-1), NONE);
        check.is(what + " of " + (most + 1), ask.applyAsInt(most + 1), NONE);
        for (int n : FAR) {
            if (n < 0 || n > most) {
                check.is(what + " of " + n, ask.applyAsInt(n), NONE);
            }
        }
    }

    /** A call is denied for each number that is not 0 .. most; it changes nothing for the nearest ones. */
    final void deniedOutside(String what, int most, Calls start, java.util.function.BiPredicate<BornAboard, Integer> call,
        int kind) {
        denies(what + " of -1", start, x -> call.test(x, -1), kind);
        denies(what + " of " + (most + 1), start, x -> call.test(x, most + 1), kind);
        for (int n : FAR) {
            if (n < 0 || n > most) {
                BornAboard x = new BornAboard();
                start.on(x);
                check.is(what + " of " + n, call.test(x, n), false);
            }
        }
    }

    /** Questions, whatever they answer, change nothing. */
    final void onlyAsks(String what, Calls questions) {
        changesNothing(what, Edges::start, questions, NONE);
    }

    final void row(String what, IntUnaryOperator ask, int... due) {
        for (int k = 0; k < due.length; k++) {
            check.is(what + " " + k, ask.applyAsInt(k), due[k]);
        }
    }
}
