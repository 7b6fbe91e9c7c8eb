import java.lang.reflect.InvocationTargetException;
import java.lang.reflect.Method;
import java.lang.reflect.Modifier;
import java.util.Arrays;
import java.util.Comparator;
import java.util.List;
import java.util.Locale;
import java.util.NoSuchElementException;
import java.util.function.Consumer;
import java.util.function.IntPredicate;
import java.util.function.IntUnaryOperator;
import java.util.function.Supplier;

/** What the tests share: running them, comparing answers, and ending with the right exit code. */
final class Checks {
    static final int MIN = Integer.MIN_VALUE;
    static final int MAX = Integer.MAX_VALUE;

    private static final int NUMBERED = "promise00".length();

    private int wrong = 0;
    private int made = 0;
    private String part = "";

    void part(String name) {
        part = name;
    }

    /**
     * Runs each test of a class PromiseNN..Test: its methods that are not private. They are found by their names, so
     * that none can be forgotten; one that does not bear its promise's number, or checks nothing, is a fault.
     */
    void runAll(Class<?> tests) throws IllegalAccessException {
        String number = tests.getName().substring(0, NUMBERED).toLowerCase(Locale.ROOT);
        Method[] methods = tests.getDeclaredMethods();
        Arrays.sort(methods, Comparator.comparing(Method::getName));
        for (Method method : methods) {
            if (!Modifier.isPrivate(method.getModifiers()) && !method.getName().equals("main")) {
                part(method.getName());
                int before = made;
                run(method);
                if (made == before || !part.startsWith(number)) {
                    fail("checks nothing, or is not named for " + number);
                }
            }
        }
        end();
    }

    private void run(Method test) throws IllegalAccessException {
        try {
            test.invoke(null);
        } catch (InvocationTargetException thrown) {
            thrown.getCause().printStackTrace(System.out);
            fail("ended with " + thrown.getCause());
        }
    }

    private void fail(String what) {
        wrong++;
        System.out.println(part + ": " + what);
    }

    void same(String call, long got, long want) {
        made++;
        if (got != want) {
            fail(call + " answered " + got + ", due is " + want);
        }
    }

    void yes(String call, boolean got) {
        same(call, got ? 1 : 0, 1);
    }

    void no(String call, boolean got) {
        same(call, got ? 1 : 0, 0);
    }

    /** The call answers NONE for each of these. */
    void none(String call, IntUnaryOperator answer, int... arguments) {
        for (int argument : arguments) {
            same(call + " of " + argument, answer.applyAsInt(argument), -1);
        }
    }

    /** The call answers false for each of these. */
    void never(String call, IntPredicate answer, int... arguments) {
        for (int argument : arguments) {
            no(call + " of " + argument, answer.test(argument));
        }
    }

    /** Each page of a desk's gifts from this one on, and that there are no more. */
    void gave(Desk desk, int from, int... pages) {
        same("count(6)", desk.count(6), from + pages.length);
        for (int i = 0; i < pages.length; i++) {
            same("given(" + (from + i) + ", 1)", desk.given(from + i, 1), pages[i]);
        }
    }

    /** The words of a page as they are now, 0 for black ones. */
    void shows(Desk desk, int page, int... words) {
        int black = 0;
        for (int i = 0; i < words.length; i++) {
            same("read(" + page + ", " + (4 + i) + ")", desk.read(page, 4 + i), words[i]);
            black += words[i] == 0 ? 1 : 0;
        }
        same("read(" + page + ", 3)", desk.read(page, 3), black);
    }

    /** Exactly the exception that the document names, not one below it. */
    void lookThrows(Desk desk, int ask, int what) {
        made++;
        try {
            int got = desk.look(ask, what);
            fail("look(" + ask + ", " + what + ") answered " + got + ", due is NoSuchElementException");
        } catch (NoSuchElementException thrown) {
            same("the exception's class", thrown.getClass() == NoSuchElementException.class ? 1 : 0, 1);
        }
    }

    /** These calls are refused, so a desk on which they are made goes on like one on which they are not. */
    void unchanged(Supplier<Desk> maker, Consumer<Desk> refusedCalls) {
        Desk touched = maker.get();
        refusedCalls.accept(touched);
        List<String> got = touched.snapshot();
        List<String> want = maker.get().snapshot();
        same("answers of the snapshot", got.size(), want.size());
        for (int i = 0; i < Math.min(got.size(), want.size()); i++) {
            made++;
            if (!got.get(i).equals(want.get(i))) {
                fail("behind refused calls " + got.get(i) + ", due is " + want.get(i));
            }
        }
    }

    void unchanged(Consumer<Desk> refusedCalls) {
        unchanged(Desk::busy, refusedCalls);
    }

    void end() {
        System.out.println(wrong == 0 ? made + " answers are as due" : wrong + " faults among " + made + " answers");
        if (wrong != 0 || made == 0) {
            System.exit(1);
        }
    }
}
