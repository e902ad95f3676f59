import java.lang.reflect.InvocationTargetException;
import java.lang.reflect.Method;
import java.util.Arrays;
import java.util.Comparator;
import java.util.function.IntFunction;

/** What the tests share: counting what was tried, running the tests of sentences, and writing functions as texts. */
final class Tries {
    static final Class<IndexOutOfBoundsException> INDEX = IndexOutOfBoundsException.class;
    static final Class<IllegalArgumentException> ARGUMENT = IllegalArgumentException.class;
    static final Class<IllegalStateException> STATE = IllegalStateException.class;
    static final Class<UnsupportedOperationException> UNSUPPORTED = UnsupportedOperationException.class;
    static final Class<java.util.NoSuchElementException> MISSING = java.util.NoSuchElementException.class;
    static final Class<ArithmeticException> ARITHMETIC = ArithmeticException.class;

    private static final int MOST_TOLD = 50;
    private static int failures = 0;
    private static int tries = 0;
    private static String test = "";

    private Tries() {}

    /** Runs each test of a class that says what it looks at, in the order of their names, and ends. */
    static void runAll(Class<?> tests) {
        Method[] methods = tests.getDeclaredMethods();
        Arrays.sort(methods, Comparator.comparing(Method::getName));
        for (Method method : methods) {
            if (method.isAnnotationPresent(Says.class)) {
                runOne(method);
            }
        }
        end(tests.getName());
    }

    private static void runOne(Method method) {
        test = method.getName() + ": ";
        int before = tries;
        try {
            method.setAccessible(true);
            method.invoke(null);
        } catch (InvocationTargetException thrown) {
            due("it threw", thrown.getCause().toString(), "nothing");
        } catch (IllegalAccessException thrown) {
            due("it can't be run", thrown.toString(), "nothing");
        }
        if (tries == before) {
            due("answers looked at", 0, "some");
        }
    }

    /** A call that may throw. */
    interface Call {
        Object answer();
    }

    static void due(String what, Object got, Object want) {
        tries++;
        if (!want.equals(got)) {
            failures++;
        }
        if (!want.equals(got) && failures <= MOST_TOLD) {
            System.out.println(test + what + ": answered " + got + ", due is " + want);
        }
    }

    static void dueThrow(String what, Class<? extends RuntimeException> want, Call call) {
        due(what, outcome(call), want.getSimpleName());
    }

    /** Looks at a range: the numbers from low to high are taken, and those outside it are refused. */
    static void dueRange(String what, int low, int high, IntFunction<Object> want,
            Class<? extends RuntimeException> refusal, IntFunction<Object> call) {
        for (int number = low; number <= high; number++) {
            int taken = number;
            due(what + " " + number, outcome(() -> call.apply(taken)), want.apply(number));
        }
        for (int refused : new int[] {low - 1, high + 1, low - 2, high + 2, Integer.MIN_VALUE, Integer.MAX_VALUE}) {
            dueThrow(what + " " + refused, refusal, () -> call.apply(refused));
        }
    }

    /** The answer of a call, or the simple name of what it throws. */
    static Object outcome(Call call) {
        try {
            return call.answer();
        } catch (RuntimeException thrown) {
            return thrown.getClass().getSimpleName();
        }
    }

    /** Adds the lines of a text such as "m 1 0; p 1" to a function. */
    static void write(ArcKeeper x, int function, String text) {
        for (String line : text.split(";")) {
            String[] words = line.trim().split(" +");
            int[] numbers = new int[3];
            for (int i = 1; i < words.length; i++) {
                numbers[i - 1] = Integer.parseInt(words[i]);
            }
            x.addLine(function, words[0].charAt(0), numbers[0], numbers[1], numbers[2]);
        }
    }

    /** Adds a function with the lines of a text. */
    static int function(ArcKeeper x, boolean isOwned, String text) {
        int number = x.addFunction(isOwned);
        if (!text.isEmpty()) {
            write(x, number, text);
        }
        return number;
    }

    static String printed(ArcKeeper x) {
        StringBuilder text = new StringBuilder();
        for (int i = 0; i < x.prints(); i++) {
            text.append(i == 0 ? "" : " ").append(x.printAt(i));
        }
        return text.toString();
    }

    static String died(ArcKeeper x) {
        StringBuilder text = new StringBuilder();
        for (int i = 0; i < x.deaths(); i++) {
            text.append(i == 0 ? "" : " ").append(x.deathAt(i));
        }
        return text.toString();
    }

    /** Ends the test: the exit code tells whether all was as due. */
    static void end(String name) {
        System.out.println(name + ": " + tries + " answers looked at, " + failures + " not as due");
        if (failures > 0 || tries == 0) {
            System.exit(1);
        }
    }
}
