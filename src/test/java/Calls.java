import java.lang.reflect.InvocationTargetException;
import java.lang.reflect.Method;
import java.util.ArrayList;
import java.util.Comparator;
import java.util.List;
import java.util.function.ToLongFunction;

/**
 * What the tests of single sentences share. A test is a static method whose name begins with "promise", the number
 * of the promise in two digits and "_"; the rest of the name is the sentence that it would find broken.
 */
abstract class Calls {
    static final int UNKNOWN = -1, OUTSIDE = -2, STATE = -3, FULL = -4, NONE = -9;
    static final int NULL = -11, CAST = -12, INDEX = -13, SIZE = -14;
    static final long LOST = Long.MIN_VALUE;
    static final int MIN = Integer.MIN_VALUE, MAX = Integer.MAX_VALUE;
    private static final int MOST_MILLIS = 60_000;

    private static int wrong = 0;

    /** Runs all tests of a class, each on its own; each promise from first to last must have one. */
    static void runAll(Class<?> tests, int first, int last) throws InterruptedException {
        List<Method> methods = new ArrayList<>();
        for (Method m : tests.getDeclaredMethods()) {
            if (m.getName().startsWith("promise")) {
                methods.add(m);
            }
        }
        methods.sort(Comparator.comparing(Method::getName));
        boolean[] tested = new boolean[30];
        for (Method m : methods) {
            tested[Integer.parseInt(m.getName().substring(7, 9))] = true;
            if (!ends(m)) {
                fail(m.getName() + " doesn't end");
                end(methods.indexOf(m) + 1);
            }
        }
        for (int promise = first; promise <= last; promise++) {
            if (!tested[promise]) {
                fail("promise " + promise + " has no test");
            }
        }
        end(methods.size());
    }

    private static void end(int run) {
        System.out.println(run + " tests run, " + (wrong == 0 ? "all answers are as due" : wrong + " wrong"));
        System.exit(wrong == 0 ? 0 : 1);
    }

    /** Runs it in a thread of its own, so that a call that doesn't end is told, too. */
    private static boolean ends(Method test) throws InterruptedException {
        Thread thread = new Thread(() -> {
            try {
                test.setAccessible(true);
                test.invoke(null);
            } catch (InvocationTargetException e) {
                fail(test.getName() + ": " + e.getCause());
            } catch (IllegalAccessException e) {
                fail(test.getName() + ": " + e);
            }
        });
        thread.setDaemon(true);
        thread.start();
        thread.join(MOST_MILLIS);
        return !thread.isAlive();
    }

    private static synchronized void fail(String what) {
        wrong++;
        System.out.println(what);
    }

    private static String where() {
        return StackWalker.getInstance().walk(frames -> frames.filter(f -> f.getMethodName().startsWith("promise"))
            .findFirst().map(f -> f.getMethodName() + ", line " + f.getLineNumber()).orElse("?"));
    }

    static void due(long got, long want) {
        if (got != want) {
            fail(where() + ": answered " + got + ", due is " + want);
        }
    }

    static void due(String what, long got, long want) {
        if (got != want) {
            fail(where() + ": " + what + " answered " + got + ", due is " + want);
        }
    }

    /** Puts a text into a new row of a sheet. */
    static void write(ScooterFlags x, int k, int lane, String text) {
        x.sheet(k, lane, text.length());
        for (int i = 0; i < text.length(); i++) {
            x.put(k, i, text.charAt(i));
        }
    }

    /** The answer to a text that is put into sheet 0 as bytes. */
    static int take(ScooterFlags x, String text) {
        write(x, 0, 0, text);
        return x.street(0, 0, 0, text.length());
    }

    static ScooterFlags on(String text) {
        ScooterFlags x = new ScooterFlags();
        take(x, text);
        return x;
    }

    static String times(String part, int n) {
        return part.repeat(n);
    }

    /** Acts, told by a text of digits, put into sheet 1 as shorts. */
    static int ride(ScooterFlags x, String acts, int what) {
        x.sheet(1, 1, acts.length());
        for (int i = 0; i < acts.length(); i++) {
            x.put(1, i, acts.charAt(i) - '0');
        }
        return x.way(1, 1, 0, acts.length(), what);
    }

    /** Seconds, flag, pace, foot, pushes of that knee, sole left, pushes in all, behind a way without a first wrong. */
    static void dueWay(ScooterFlags x, String acts, int... want) {
        due(acts + ", what 0,", ride(x, acts, 0), want[0]);
        due(acts + ", what 1,", ride(x, acts, 1), NONE);
        for (int what = 2; what <= 7; what++) {
            due(acts + ", what " + what + ",", ride(x, acts, what), want[what - 1]);
        }
    }

    static void dueWrong(ScooterFlags x, String acts, int first) {
        for (int what = 0; what <= 7; what++) {
            due(acts + ", what " + what + ",", ride(x, acts, what), what == 1 ? first : -100 - first);
        }
    }

    /** Nothing in sheet 2, and no street. */
    static ScooterFlags bare() {
        ScooterFlags x = new ScooterFlags();
        write(x, 0, 0, "s321f1h0#w4");
        x.sheet(1, 1, 5);
        for (int act = 0; act <= 4; act++) {
            x.put(1, act, act);
        }
        x.sheet(3, 2, 2);
        x.put(3, 0, 5);
        x.put(3, 1, MIN);
        return x;
    }

    /** Like bare, with a street of three flags, changed since it was told, with readings and a trace. */
    static ScooterFlags rich() {
        ScooterFlags x = bare();
        x.street(0, 0, 0, 11);
        x.strong(2);
        x.knee(3);
        x.sole(2);
        x.grating(2, true);
        int seen = x.quickest();
        x.reading(seen);
        x.reading(seen);
        x.tell(2);
        return x;
    }

    /** All that an object tells of itself, but the fault, which the asking changes. */
    static String all(ScooterFlags x) {
        StringBuilder s = new StringBuilder("many");
        for (int what = 0; what <= 4; what++) {
            s.append(' ').append(x.many(what));
        }
        for (int f = 0; f < x.many(0); f++) {
            s.append(" flag ").append(f);
            for (int what = 0; what <= 3; what++) {
                s.append(' ').append(x.ofFlag(f, what));
            }
        }
        s.append(" asked ").append(x.quickest()).append(' ').append(x.lightest(24)).append(' ').append(x.strengths());
        s.append(' ').append(x.knees()).append(' ').append(x.smooth(0)).append(' ').append(x.kinds(0));
        s.append(" trace ").append(x.trace());
        for (int k = 0; k <= 3; k++) {
            s.append(" sheet ").append(k).append(' ').append(allOfSheet(x, k));
        }
        return s.toString();
    }

    private static String allOfSheet(ScooterFlags x, int k) {
        for (int lane = 0; lane <= 2; lane++) {
            StringBuilder s = new StringBuilder("of lane " + lane);
            long cell = x.cell(k, 0, lane);
            for (int i = 1; x.fault() == 0 && i <= 61; i++) {
                s.append(' ').append(cell);
                cell = x.cell(k, i, lane);
            }
            if (x.fault() == 1) {
                return "nothing";
            }
            if (x.fault() == 3) {
                return s.toString();
            }
        }
        return "of no lane";
    }

    /** A call of one that names faults is refused or comes to a fault: it answers so, and changes nothing else. */
    static void refused(ScooterFlags x, ToLongFunction<ScooterFlags> call, long want, int fault) {
        String before = all(x);
        // Another fault must be told ahead of the call, so that the call's own one can be seen.
        if (fault == 4) {
            x.cell(0, 0, 1);
        } else {
            x.sheet(0, 0, -1);
        }
        due("the call", call.applyAsLong(x), want);
        due("fault behind it", x.fault(), fault);
        dueUnchanged(before, x);
    }

    /** A call that names no faults, refused or only asking: it answers so, and changes nothing, nor the fault. */
    static void leaves(ScooterFlags x, ToLongFunction<ScooterFlags> call, long want) {
        String before = all(x);
        x.sheet(0, 0, -1);
        due("the call", call.applyAsLong(x), want);
        due("fault behind it", x.fault(), 4);
        dueUnchanged(before, x);
    }

    private static void dueUnchanged(String before, ScooterFlags x) {
        String after = all(x);
        if (!before.equals(after)) {
            fail(where() + ": it was " + before + ", it is " + after);
        }
    }
}
