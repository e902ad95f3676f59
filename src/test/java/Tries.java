/** What the tests share: counting what was tried, and writing functions as texts. */
final class Tries {
    private static int failures = 0;
    private static int tries = 0;

    private Tries() {}

    /** A call that may throw. */
    interface Call {
        Object answer();
    }

    static void due(String what, Object got, Object want) {
        tries++;
        if (!want.equals(got)) {
            failures++;
            System.out.println(what + ": answered " + got + ", due is " + want);
        }
    }

    static void dueThrow(String what, Class<? extends RuntimeException> want, Call call) {
        due(what, outcome(call), want.getSimpleName());
    }

    /** The answer of a call, or the simple name of what it throws. */
    static Object outcome(Call call) {
        try {
            return call.answer();
        } catch (RuntimeException thrown) {
            return thrown.getClass().getSimpleName();
        }
    }

    /** Adds the lines of a text such as "m 1 0; p 1" to a function. */
    static void write(ArcKeeper x, int function, String text) {
        for (String line : text.split(";")) {
            String[] words = line.trim().split(" +");
            int[] numbers = new int[3];
            for (int i = 1; i < words.length; i++) {
                numbers[i - 1] = Integer.parseInt(words[i]);
            }
            x.addLine(function, words[0].charAt(0), numbers[0], numbers[1], numbers[2]);
        }
    }

    /** Adds a function with the lines of a text. */
    static int function(ArcKeeper x, boolean isOwned, String text) {
        int number = x.addFunction(isOwned);
        if (!text.isEmpty()) {
            write(x, number, text);
        }
        return number;
    }

    static String printed(ArcKeeper x) {
        StringBuilder text = new StringBuilder();
        for (int i = 0; i < x.prints(); i++) {
            text.append(i == 0 ? "" : " ").append(x.printAt(i));
        }
        return text.toString();
    }

    static String died(ArcKeeper x) {
        StringBuilder text = new StringBuilder();
        for (int i = 0; i < x.deaths(); i++) {
            text.append(i == 0 ? "" : " ").append(x.deathAt(i));
        }
        return text.toString();
    }

    /** Ends the test: the exit code tells whether all was as due. */
    static void end(String name) {
        System.out.println(name + ": " + tries + " answers looked at, " + failures + " not as due");
        if (failures > 0 || tries == 0) {
            System.exit(1);
        }
    }
}
