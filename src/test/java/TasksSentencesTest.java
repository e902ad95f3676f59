/** Promises 19 to 26 and 42: each sentence on its own, with the last value that is taken and the first that is refused. */
public final class TasksSentencesTest {
    private TasksSentencesTest() {}

    public static void main(String[] args) {
        Tries.runAll(TasksSentencesTest.class);
    }

    private static ArcKeeper tasks(int count, String... functions) {
        ArcKeeper x = Worlds.world(functions);
        for (int i = 0; i < count; i++) {
            x.begin(0, -1, false);
        }
        return x;
    }

    private static ArcKeeper kinds(int count) {
        ArcKeeper x = new ArcKeeper();
        for (int i = 0; i < count; i++) {
            x.addKind(-1, false);
        }
        x.addFunction(false);
        return x;
    }

    /** A language in which 145 objects or more were made, for each one more by a task of its own. */
    private static ArcKeeper objects(int count) {
        ArcKeeper x = Worlds.world("l 5; l 5; l 5; m 1 2; j; j; j; l 4; l 5; m 1 2; j; j; z", "m 1 2; z", "z");
        x.begin(0, -1, false);
        while (x.at(0) < 12) {
            x.step(0, 1);
        }
        for (int i = 145; i < count; i++) {
            x.begin(1, -1, false);
            x.step(i - 144, 1);
        }
        return x;
    }

    // ---- promise 19

    @Says(promise = 19, words = {"Begins a task.", "`function`: the function",
        "Throws `IndexOutOfBoundsException` if there is no such function or kind, and it is not -1"})
    static void promise19Function() {
        Tries.dueRange("function", 0, 2, n -> 0, Tries.INDEX, n -> Worlds.world("z", "z", "z").begin(n, 0, false));
        Tries.dueRange("function with no object", 0, 2, n -> 0, Tries.INDEX,
                n -> Worlds.world("z", "z", "z").begin(n, -1, true));
        Tries.dueThrow("no functions", Tries.INDEX, () -> Worlds.world().begin(0, -1, false));
        Tries.dueThrow("-1 is no function", Tries.INDEX, () -> Worlds.world("z").begin(-1, -1, false));
        ArcKeeper x = Worlds.world("n 1 1; r 1", "n 1 2; r 1");
        x.begin(1, -1, false);
        Tries.due("it is that function", Worlds.ended(x, 0), "d 2 in 2");
    }

    @Says(promise = 19, words = {"`kind`: the kind of the object that is made as the parameter, or -1 for none",
        "if there is no such function or kind, and it is not -1"})
    static void promise19Kind() {
        Tries.dueRange("kind", -1, 2, n -> 0, Tries.INDEX, n -> kinds(3).begin(0, n, false));
        Tries.dueRange("kind of eight", -1, 7, n -> 0, Tries.INDEX, n -> kinds(8).begin(0, n, true));
        Tries.dueRange("no kinds", -1, -1, n -> 0, Tries.INDEX, n -> kinds(0).begin(0, n, false));
        for (int kind = -1; kind < 3; kind++) {
            for (String owner : new String[] {"", "owned "}) {
                ArcKeeper x = Worlds.world(owner + "p 0; z");
                x.begin(0, kind, false);
                Tries.due("made", x.made() + " " + x.alive(), kind < 0 ? "0 0" : "1 1");
                if (kind >= 0) {
                    Tries.due("kind", x.kindOf(0), kind);
                    Tries.due("owned once, kept never", Worlds.owned(x, 0) + " " + Worlds.counts(x), "1 1 0 0");
                }
                x.step(0, 1);
                Tries.due("the parameter", Tries.printed(x), kind < 0 ? "-10000" : "" + (10000 + kind));
            }
        }
    }

    @Says(promise = 19, words = "`isThrifty`: whether the task runs in the thrifty way")
    static void promise19IsThrifty() {
        ArcKeeper x = Worlds.world("m 1 0; n 2 1", "m 1 0; k 2 2 0; n 2 1", "m 1 0; n 2 1");
        x.begin(0, -1, false);
        x.begin(0, -1, true);
        x.step(0, 1);
        Tries.due("the plain one keeps", x.alive(), 1);
        x.step(1, 1);
        Tries.due("the thrifty one does not", x.alive() + " " + x.isAlive(0) + " " + x.isAlive(1), "1 true false");
        x.begin(1, -1, true);
        x.step(2, 3);
        Tries.due("in a call, too", x.isAlive(2) + " " + x.isAlive(3), "true false");
        x.begin(1, -1, false);
        x.step(3, 3);
        Tries.due("not in one of a plain task", x.isAlive(4) + " " + x.isAlive(5), "true true");
    }

    @Says(promise = 19, words = {"Returns its number.", "Throws `IllegalStateException` if there are 6 tasks, "
        + "or an object would be made, and there are 150"})
    static void promise19SixTasks() {
        ArcKeeper x = Worlds.world("z", "", "h 1", "g 0 1 0");
        for (int i = 0; i < 6; i++) {
            Tries.due("number", x.begin(i % 4, -1, i % 2 == 0), i);
            if (i % 4 > 1) {
                x.step(i, 1);
            }
        }
        Tries.dueThrow("the seventh one", Tries.STATE, () -> x.begin(0, -1, false));
        Tries.dueThrow("with an object", Tries.STATE, () -> x.begin(0, 0, true));
        Tries.dueThrow("of no lines", Tries.STATE, () -> x.begin(1, -1, false));
        Tries.due("made", x.made(), 0);
    }

    @Says(promise = 19, words = "or an object would be made, and there are 150")
    static void promise19HundredFiftyObjects() {
        ArcKeeper x = objects(149);
        Tries.due("149 objects, five tasks", x.made() + " " + x.begin(2, 0, false) + " " + x.made(), "149 5 150");
        ArcKeeper y = Worlds.world("l 5; l 5; l 5; m 1 2; j; j; j; l 5; l 5; m 1 2; j; j", "z");
        y.begin(0, -1, false);
        Tries.due("all are made", Worlds.ended(y, 0), "d -10000 in " + (1 + 5 + 25 + 250 + 25 + 5 + 1 + 5 + 50 + 5));
        Tries.due("all have died", y.made() + " " + y.alive(), "150 0");
        for (int kind = 0; kind < 3; kind++) {
            int asked = kind;
            Tries.dueThrow("those that are not alive count, too", Tries.STATE, () -> y.begin(1, asked, false));
        }
        Tries.due("no object would be made", y.begin(1, -1, false), 1);
        Tries.due("nothing was made", y.made(), 150);
    }

    @Says(promise = 19, words = "Throws `UnsupportedOperationException` if checking a function finds a fault")
    static void promise19Fault() {
        for (String text : new String[] {"j", "l 1", "d; z; j", "e 0 0; g 1 0 0; j"}) {
            Tries.dueThrow("its own " + text, Tries.UNSUPPORTED, () -> Worlds.world(text).begin(0, -1, false));
            Tries.dueThrow("with an object " + text, Tries.UNSUPPORTED, () -> Worlds.world(text).begin(0, 0, true));
            Tries.dueThrow("the last of eight " + text, Tries.UNSUPPORTED,
                    () -> Worlds.world("z", "", "", "", "", "", "", text).begin(0, -1, false));
        }
        Tries.due("none", Worlds.world("z", "", "", "", "", "", "", "z").begin(0, -1, false), 0);
    }

    @Says(promise = 19, words = {"if there is no such function or kind, and it is not -1", "if there are 6 tasks,",
        "if checking a function finds a fault"})
    static void promise19Order() {
        Tries.dueThrow("function ahead of six tasks", Tries.INDEX, () -> tasks(6, "z").begin(1, -1, false));
        Tries.dueThrow("kind ahead of six tasks", Tries.INDEX, () -> tasks(6, "z").begin(0, 3, false));
        Tries.dueThrow("kind below ahead of six tasks", Tries.INDEX, () -> tasks(6, "z").begin(0, -2, false));
        Tries.dueThrow("function ahead of fault", Tries.INDEX, () -> Worlds.world("j").begin(1, -1, false));
        Tries.dueThrow("kind ahead of fault", Tries.INDEX, () -> Worlds.world("j").begin(0, 3, false));
        Tries.dueThrow("kind ahead of 150 objects", Tries.INDEX, () -> objects(149).begin(2, 3, false));
    }

    // ---- promise 20

    @Says(promise = 20, words = {"Lets a task make steps.", "`task`: the task",
        "Throws `IndexOutOfBoundsException` if there is no such task"})
    static void promise20Task() {
        Tries.dueRange("task", 0, 1, n -> 1, Tries.INDEX, n -> tasks(2, "z; z").step(n, 1));
        Tries.dueRange("task of six", 0, 5, n -> 1, Tries.INDEX, n -> tasks(6, "z; z").step(n, 1));
        Tries.dueThrow("no tasks", Tries.INDEX, () -> tasks(0, "z").step(0, 1));
        ArcKeeper x = tasks(3, "n 1 1; n 2 2; n 3 3");
        x.step(1, 2);
        Tries.due("that task alone", x.at(0) + " " + x.at(1) + " " + x.at(2), "0 2 0");
    }

    @Says(promise = 20, words = {"`steps`: the number of steps, 1 to 100",
        "Throws `IllegalArgumentException` if the number is out of range", "Returns how many it made."})
    static void promise20Steps() {
        String text = "l 5; l 5; l 5; l 5; j; j; j; j";
        Tries.dueRange("steps", 1, 100, n -> n, Tries.ARGUMENT, n -> tasks(1, text).step(0, n));
    }

    @Says(promise = 20, words = "Returns how many it made.")
    static void promise20FewerAtTheEnd() {
        for (int lines = 1; lines <= 24; lines++) {
            String text = "n 1 1" + "; n 1 1".repeat(lines - 1);
            for (int steps = 1; steps <= 30; steps++) {
                ArcKeeper x = tasks(1, text);
                Tries.due(steps + " of " + lines, x.step(0, steps), Math.min(steps, lines));
                Tries.due("state", x.state(0), steps < lines ? 'r' : 'd');
            }
        }
        Tries.due("up to an error", tasks(1, "z; h 1; z").step(0, 100), 2);
        Tries.due("up to a trap", tasks(1, "z; g 0 1 0; z").step(0, 100), 2);
        Tries.due("up to a return", tasks(1, "z; r 0; z").step(0, 100), 2);
    }

    @Says(promise = 20, words = "Throws `IllegalStateException` if its state is 'd', 'e' or 't'")
    static void promise20Ended() {
        for (String text : new String[] {"n 1 1", "h 1", "g 0 1 0"}) {
            ArcKeeper x = tasks(2, text);
            x.step(0, 1);
            for (int steps : new int[] {1, 100}) {
                Tries.dueThrow("ended " + text, Tries.STATE, () -> x.step(0, steps));
            }
            Tries.due("the other one", x.step(1, 100), 1);
        }
        Tries.dueThrow("done as it began", Tries.STATE, () -> tasks(1, "").step(0, 1));
    }

    @Says(promise = 20, words = {"if there is no such task", "if the number is out of range",
        "if its state is 'd', 'e' or 't'"})
    static void promise20Order() {
        Tries.dueThrow("task ahead of number", Tries.INDEX, () -> tasks(1, "z").step(1, 0));
        Tries.dueThrow("task ahead of number", Tries.INDEX, () -> tasks(1, "z").step(-1, 101));
        for (String text : new String[] {"n 1 1", "h 1", "g 0 1 0"}) {
            ArcKeeper x = tasks(1, text);
            x.step(0, 1);
            Tries.dueThrow("too few ahead of ended " + text, Tries.ARGUMENT, () -> x.step(0, 0));
            Tries.dueThrow("too many ahead of ended " + text, Tries.ARGUMENT, () -> x.step(0, 101));
        }
    }

    // ---- promise 21

    @Says(promise = 21, words = {"Returns the state of a task.", "`task`: the task",
        "Throws `IndexOutOfBoundsException` if there is no such task"})
    static void promise21Task() {
        Tries.dueRange("task", 0, 1, n -> 'r', Tries.INDEX, n -> tasks(2, "z").state(n));
        Tries.dueRange("task of six", 0, 5, n -> 'd', Tries.INDEX, n -> tasks(6, "").state(n));
        Tries.dueThrow("no tasks", Tries.INDEX, () -> tasks(0, "z").state(0));
    }

    @Says(promise = 21, words = "Returns 'r' if it can go on, 'w' if it waited for an actor in its last step, "
        + "'d' if it is done, 'e' if it ended with an error, 't' if it was trapped.")
    static void promise21States() {
        ArcKeeper x = Worlds.world("v 0; z; j", "h 1", "v 1; j", "");
        x.begin(0, 0, false);
        x.begin(1, -1, false);
        x.begin(2, -1, false);
        x.begin(3, -1, false);
        Tries.due("as they begin", "" + x.state(0) + x.state(1) + x.state(2) + x.state(3), "rrrd");
        x.step(0, 1);
        Tries.due("in an actor", x.state(0), 'r');
        x.step(0, 1);
        Tries.due("it waits by a z, not for an actor", x.state(0), 'r');
        x.step(0, 1);
        x.step(1, 1);
        x.step(2, 1);
        Tries.due("as they end", "" + x.state(0) + x.state(1) + x.state(2) + x.state(3), "detd");
        Tries.due("a handled error is no end", tellState("y 1; h 1; o; z; j; z", 3), 'r');
        Tries.due("an error from a handler", tellState("y 1; h 1; o; h 2; j; z", 3), 'e');
    }

    private static char tellState(String text, int steps) {
        ArcKeeper x = tasks(1, text);
        x.step(0, steps);
        return x.state(0);
    }

    // ---- promise 22

    @Says(promise = 22, words = {"Returns why a task was trapped.", "`task`: the task",
        "Throws `IndexOutOfBoundsException` if there is no such task",
        "Throws `NoSuchElementException` if it was not"})
    static void promise22Task() {
        ArcKeeper x = tasks(3, "v 1; j");
        x.step(1, 1);
        Tries.dueRange("task", 0, 2, n -> n == 1 ? 'n' : "NoSuchElementException", Tries.INDEX, x::trap);
        Tries.dueThrow("no tasks", Tries.INDEX, () -> tasks(0, "z").trap(0));
        Tries.dueThrow("done", Tries.MISSING, () -> tasks(1, "").trap(0));
        ArcKeeper y = tasks(1, "h 1");
        y.step(0, 1);
        Tries.dueThrow("ended with an error", Tries.MISSING, () -> y.trap(0));
    }

    @Says(promise = 22, words = "Returns 'n', 'f', 'u', 'x', 'p', 'm', 't' or 'd'.")
    static void promise22Letters() {
        Tries.due("n", Worlds.run(0, "g 1 2 0"), "t n at 0 in 1");
        Tries.due("f", Worlds.run(0, "g 1 0 1"), "t f at 0 in 1");
        Tries.due("u", Worlds.run(1, "m 1 2; f 0 2 1; - 1; g 1 0 2"), "t u at 3 in 4");
        Tries.due("x", Worlds.run(0, "c 1 0; e 0 0; g 2 1 0; j"), "t x at 2 in 3");
        Tries.due("p", Worlds.run(0, "q 1 0 0"), "t p at 0 in 1");
        Tries.due("m", Worlds.run(-1, "l 5; l 5; l 5; m 1 2; j; j; j; l 5; l 5; m 1 2; j; j; m 1 2"),
                "t m at 12 in 373");
        Tries.due("t", Worlds.run(0, "+ 1 2 2"), "t t at 0 in 1");
        Tries.due("d", Worlds.run(0, "k 1 0 0"), "t d at 0 in 9");
    }

    // ---- promise 23

    @Says(promise = 23, words = {"Returns the error with which a task ended.", "`task`: the task",
        "Throws `IndexOutOfBoundsException` if there is no such task",
        "Throws `NoSuchElementException` if it did not"})
    static void promise23Task() {
        ArcKeeper x = tasks(3, "h 7");
        x.step(1, 1);
        Tries.dueRange("task", 0, 2, n -> n == 1 ? (Object) 7 : "NoSuchElementException", Tries.INDEX, x::error);
        Tries.dueThrow("no tasks", Tries.INDEX, () -> tasks(0, "z").error(0));
        Tries.dueThrow("done", Tries.MISSING, () -> tasks(1, "").error(0));
        ArcKeeper y = tasks(1, "n 1 5; r 1");
        y.step(0, 2);
        Tries.dueThrow("done with a number", Tries.MISSING, () -> y.error(0));
        ArcKeeper z = tasks(1, "y 1; h 1; o; g 1 1 0; j");
        z.step(0, 3);
        Tries.dueThrow("trapped behind an error", Tries.MISSING, () -> z.error(0));
    }

    @Says(promise = 23, words = "Returns the error.")
    static void promise23Errors() {
        for (int error = 1; error <= 9; error++) {
            Tries.due("error", Worlds.run(-1, "h " + error), "e " + error + " in 1");
            Tries.due("from a call", Worlds.run(-1, "k 1 1 0", "k 1 2 0", "h " + error), "e " + error + " in 3");
            Tries.due("as a value", Worlds.run(-1, "y 1; h " + error + "; o; j; r 1"), "d " + error + " in 4");
        }
        Tries.due("the later one", Worlds.run(-1, "y 1; h 3; o; h 4; j"), "e 4 in 3");
    }

    // ---- promise 24

    @Says(promise = 24, words = {
        "Returns the line at which a task is: the next one to be done, or that of its trap.", "`task`: the task",
        "Throws `IndexOutOfBoundsException` if there is no such task",
        "Throws `NoSuchElementException` if it is done or ended with an error"})
    static void promise24Task() {
        ArcKeeper x = tasks(3, "n 1 1; n 1 1; n 1 1");
        x.step(1, 1);
        x.step(2, 2);
        Tries.dueRange("task", 0, 2, n -> n, Tries.INDEX, x::at);
        Tries.dueThrow("no tasks", Tries.INDEX, () -> tasks(0, "z").at(0));
        x.step(0, 3);
        Tries.dueThrow("done", Tries.MISSING, () -> x.at(0));
        Tries.dueThrow("done as it began", Tries.MISSING, () -> tasks(1, "").at(0));
        ArcKeeper y = tasks(1, "h 1");
        Tries.due("ahead of the error", y.at(0), 0);
        y.step(0, 1);
        Tries.dueThrow("ended with an error", Tries.MISSING, () -> y.at(0));
    }

    /** The lines at which a task is, step by step. */
    private static String way(int kind, String... functions) {
        ArcKeeper x = Worlds.world(functions);
        x.begin(0, kind, false);
        StringBuilder way = new StringBuilder();
        for (int step = 0; step < 100 && x.state(0) == 'r'; step++) {
            way.append(x.at(0)).append(' ');
            x.step(0, 1);
        }
        return way.append(Worlds.told(x, 0)).toString();
    }

    @Says(promise = 24, words = {"Returns the line.", "the next one to be done, or that of its trap."})
    static void promise24Line() {
        Tries.due("lines", way(-1, "n 1 1; n 2 2; r 1"), "0 1 2 d 1");
        Tries.due("a loop", way(-1, "l 2; n 1 1; j; z"), "0 1 2 1 2 3 4 d -10000");
        Tries.due("a part that is not done", way(-1, "? 1; z; j; n 1 1"), "0 3 d -10000");
        Tries.due("a part that is done", way(0, "? 0; n 1 1; j; n 1 1"), "0 1 2 3 d -10000");
        Tries.due("a part that is put off", way(0, "d; n 1 1; j; n 1 1"), "0 3 d -10000");
        Tries.due("no error", way(0, "y 1; n 2 1; o; n 2 1; j; n 1 1"), "0 1 2 5 d -10000");
        Tries.due("an error", way(0, "y 1; h 1; o; n 2 1; j; n 1 1"), "0 1 3 4 5 d -10000");
        Tries.due("an error in empty parts", way(0, "y 1; h 1; o; j; n 1 1"), "0 1 3 4 d -10000");
        Tries.due("a call", way(0, "k 1 1 0; n 1 1", "n 1 1; n 1 1"), "0 0 1 1 d -10000");
        Tries.due("a call of no lines", way(0, "k 1 1 0; n 1 1", ""), "0 1 d -10000");
        Tries.due("behind the last line", way(0, "z"), "0 1 d -10000");
        Tries.due("behind the last line of a call", way(0, "k 1 1 0; n 1 1", "z"), "0 0 1 1 d -10000");
        Tries.due("behind 24 lines", way(0, "z" + "; n 1 1".repeat(22) + "; z").substring(56), "22 23 24 d -10000");
        Tries.due("a trap", way(0, "n 1 1; v 1; j"), "0 1 t n at 1");
        Tries.due("a trap in a call", way(0, "n 1 1; k 1 1 0; z", "n 1 1; n 1 1; v 1; j"), "0 1 0 1 2 t n at 2");
        Tries.due("a trap in a part that is put off", way(0, "d; n 1 1; g 2 3 0; j; n 1 1; n 1 1"), "0 4 5 t n at 2");
    }

    // ---- promise 25

    @Says(promise = 25, words = {"Returns how many calls a task is in.", "`task`: the task",
        "Returns the number of functions that it is in.",
        "Throws `IndexOutOfBoundsException` if there is no such task"})
    static void promise25Depth() {
        ArcKeeper x = tasks(3, "k 1 1 0; z", "k 1 2 0; z", "z; z");
        x.step(1, 1);
        x.step(2, 2);
        Tries.dueRange("task", 0, 2, n -> n + 1, Tries.INDEX, x::depth);
        Tries.dueThrow("no tasks", Tries.INDEX, () -> tasks(0, "z").depth(0));
        Tries.due("done as it began", tasks(1, "").depth(0), 0);
        x.step(2, 3);
        Tries.due("one has returned", x.depth(2), 2);
        x.step(2, 2);
        Tries.due("two have", x.depth(2), 1);
        x.step(2, 1);
        Tries.due("behind its last line", x.depth(2), 1);
        x.step(2, 1);
        Tries.due("done", x.depth(2), 0);
        ArcKeeper y = tasks(1, "k 1 1 0", "h 1");
        y.step(0, 2);
        Tries.due("ended with an error", y.depth(0), 0);
        ArcKeeper z = tasks(1, "k 1 1 0", "v 1; j");
        z.step(0, 2);
        Tries.due("trapped", z.depth(0), 2);
        ArcKeeper w = tasks(1, "k 1 0 0");
        for (int depth = 1; depth <= 9; depth++) {
            Tries.due("deeper", w.depth(0), depth);
            w.step(0, 1);
        }
        Tries.due("trapped in the ninth one", w.depth(0) + " " + w.state(0), "9 t");
    }

    // ---- promise 26

    @Says(promise = 26, words = {"Returns what a task that is done returned.", "`task`: the task",
        "Throws `IndexOutOfBoundsException` if there is no such task",
        "Throws `NoSuchElementException` if it is not done"})
    static void promise26Task() {
        ArcKeeper x = tasks(3, "n 1 7; r 1");
        x.step(1, 2);
        Tries.dueRange("task", 0, 2, n -> n == 1 ? (Object) 7 : "NoSuchElementException", Tries.INDEX, x::result);
        Tries.dueThrow("no tasks", Tries.INDEX, () -> tasks(0, "z").result(0));
        ArcKeeper y = tasks(1, "h 1");
        y.step(0, 1);
        Tries.dueThrow("ended with an error", Tries.MISSING, () -> y.result(0));
        ArcKeeper z = tasks(1, "v 1; j");
        z.step(0, 1);
        Tries.dueThrow("trapped", Tries.MISSING, () -> z.result(0));
    }

    @Says(promise = 26, words = "Returns the number, 10000 plus the kind for an object, or -10000 for none.")
    static void promise26Values() {
        for (int number : new int[] {-999, -1, 0, 1, 999}) {
            Tries.due("a number", Worlds.run(-1, "n 1 " + number + "; r 1"), "d " + number + " in 2");
        }
        String largest = "n 1 999; + 1 1 1; + 2 1 1; + 2 2 2; + 1 1 2; n 2 9; + 1 1 2";
        Tries.due("the largest number", Worlds.run(-1, largest + "; r 1"), "d 9999 in 8");
        Tries.due("the smallest number", Worlds.run(-1, largest.replace("999", "-999").replace("n 2 9", "n 2 -9") + "; r 1"),
                "d -9999 in 8");
        ArcKeeper x = new ArcKeeper();
        for (int kind = 0; kind < 8; kind++) {
            x.addKind(kind - 1, false);
        }
        Tries.function(x, true, "r 0");
        for (int kind = 2; kind < 8; kind++) {
            int task = x.begin(0, kind, kind % 2 == 0);
            x.step(task, 1);
            Tries.due("an object", x.result(task), 10000 + kind);
        }
        for (int kind = 0; kind < 3; kind++) {
            Tries.due("an object of the kind " + kind, Worlds.run(kind, "r 0"), "d " + (10000 + kind) + " in 1");
        }
        Tries.due("none", Worlds.run(0, "r 1"), "d -10000 in 1");
        Tries.due("no return", Worlds.run(0, "n 1 1"), "d -10000 in 1");
        Tries.due("no lines", Worlds.run(0, ""), "d -10000 in 0");
    }

    // ---- promise 42

    @Says(promise = 42, words = {"Returns the mean number of steps of the tasks.",
        "Returns the sum of the steps divided by the number of tasks, both converted to double.",
        "Throws `ArithmeticException` if there are none"})
    static void promise42Mean() {
        ArcKeeper x = Worlds.world("z; n 1 1; z", "", "h 1", "z; v 1; j");
        Tries.dueThrow("no tasks", Tries.ARITHMETIC, x::meanSteps);
        x.begin(1, -1, false);
        Tries.due("no steps", x.meanSteps(), 0.0);
        x.begin(0, -1, false);
        x.step(1, 100);
        Tries.due("the step in which it returns behind a z", x.meanSteps(), 4.0 / 2.0);
        x.begin(2, -1, false);
        Tries.due("a task without steps yet", x.meanSteps(), 4.0 / 3.0);
        x.step(2, 100);
        Tries.due("the step of an error", x.meanSteps(), 5.0 / 3.0);
        x.begin(3, -1, false);
        x.step(3, 2);
        Tries.due("the step of a trap", x.meanSteps(), 7.0 / 4.0);
        x.begin(0, -1, true);
        x.step(4, 1);
        Tries.due("one step", x.meanSteps(), 8.0 / 5.0);
        x.begin(0, -1, true);
        Tries.due("six tasks", x.meanSteps(), 8.0 / 6.0);
        Tries.dueThrow("steps that are refused", Tries.STATE, () -> x.step(0, 1));
        Tries.due("are no steps", x.meanSteps(), 8.0 / 6.0);
        ArcKeeper y = tasks(1, "l 5; l 5; l 5; l 5; z; j; j; j; j");
        int steps = 0;
        while (y.state(0) == 'r') {
            steps += y.step(0, 100);
        }
        Tries.due("many steps", y.meanSteps(), 1.0 + 5 + 25 + 125 + 2 * 625 + 125 + 25 + 5);
        Tries.due("as many as were made", y.meanSteps(), (double) steps);
    }
}
