/** What 'Terms' says of runs, traps, deaths and actors: each sentence on its own. */
public final class RunsSentencesTest {
    private RunsSentencesTest() {}

    public static void main(String[] args) {
        Tries.runAll(RunsSentencesTest.class);
    }

    // ---- steps

    @Says(promise = 0, words = {"Runs. A step does a line; if there is no next line then, the function returns none "
        + "in the same step,", "one without lines returns as it begins."})
    static void runsTheLastLineInEveryForm() {
        String[][] lasts = {
            {"n 1 1", "1"}, {"m 1 2", "1"}, {"- 1", "1"}, {"c 1 0", "1"}, {"g 1 0 0", "1"}, {"f 0 0 0", "1"}, {"p 0", "1"},
            {"? 1; j", "1"}, {"? 0; j", "2"}, {"? 0; n 1 1; j", "3"}, {"l 1; j", "2"}, {"l 5; j", "6"}, {"l 2; l 2; j; j", "9"},
            {"d; j", "1"}, {"d; n 1 1; p 1; j", "1"}, {"y 1; o; j", "2"}, {"y 1; n 1 1; o; n 1 1; j", "3"},
            {"y 1; h 1; o; j", "3"}, {"y 1; h 1; o; n 1 1; j", "4"}, {"e 0 0; j", "2"}, {"v 0; j", "2"}, {"z", "2"},
            {"k 1 1 0", "1"}, {"k 1 2 0", "2"}, {"k 1 3 0", "3"}, {"k 1 4 0", "3"}, {"v 0; z; j", "3"}, {"v 0; j; z", "4"},
            {"v 0; k 1 1 0; j", "3"}, {"v 0; k 1 4 0; j", "5"}, {"l 3; z; j", "7"},
        };
        for (String[] last : lasts) {
            Tries.due("alone " + last[0], Worlds.run(0, last[0], "", "n 1 1", "k 1 2 0", "z"), "d -10000 in " + last[1]);
            int steps = Integer.parseInt(last[1]);
            Tries.due("behind another line " + last[0], Worlds.run(0, "n 2 1; " + last[0], "", "n 1 1", "k 1 2 0", "z"),
                    "d -10000 in " + (steps + 1));
            Tries.due("in a call " + last[0], Worlds.run(0, "k 2 5 0", "", "n 1 1", "k 1 2 0", "z", last[0]),
                    "d -10000 in " + (steps + 1));
        }
        Tries.due("an r", Worlds.run(-1, "n 1 3; r 1"), "d 3 in 2");
        Tries.due("an h", Worlds.run(-1, "h 1"), "e 1 in 1");
        Tries.due("no lines", Worlds.run(0, ""), "d -10000 in 0");
        Tries.due("no lines in a call", Worlds.run(0, "k 1 1 0; n 2 3; r 2", ""), "d 3 in 3");
    }

    @Says(promise = 0, words = {"and so does, when a function has returned, the one that called it, and so on;",
        "the variable of the call is set when all else is done."})
    static void runsCallersReturnInTheSameStep() {
        Tries.due("eight calls", Worlds.run(-1, "k 1 1 0", "k 1 2 0", "k 1 3 0", "k 1 4 0", "k 1 5 0", "k 1 6 0", "k 1 7 0", "n 1 1"),
                "d -10000 in 8");
        Tries.due("with an r at the end", Worlds.run(-1, "k 1 1 0", "n 1 1; r 1"), "d -10000 in 3");
        Tries.due("an r is a line of its own", Worlds.run(-1, "k 1 1 0; r 1", "k 1 2 0; r 1", "n 1 4; r 1"), "d 4 in 6");
        Tries.due("within a part there is a next line", Worlds.run(-1, "? 0; j; l 1; k 1 1 0; j", "n 1 1"), "d -10000 in 5");
        ArcKeeper x = Worlds.begun(-1, 2, "m 1 1; k 1 1 1; z", "owned d; p 0; j; m 2 2; r 2");
        x.step(0, 2);
        Tries.due("ahead of the return", x.deaths() + " " + x.prints() + " " + x.depth(0), "0 0 2");
        x.step(0, 1);
        Tries.due("behind it: what was put off, the variables, then the variable of the call", Tries.printed(x) + " " + Tries.died(x) + " " + x.depth(0),
                "10001 11 10 1");
        Tries.due("what was returned", Worlds.owned(x, 1), "1 1");
    }

    @Says(promise = 0, words = {"When a function returns, or an error leaves it, the accesses and actors of its parts end, "
        + "from the innermost one, the parts that were put off are done, the latest one first, line by line, without their 'j',",
        "all in the step in which it leaves."})
    static void runsWhatIsPutOff() {
        String parts = "d; p 1; p 2; j; n 2 2; d; p 2; p 1; j; n 1 1";
        Tries.due("by a return at the end", Worlds.prints(-1, parts), "2 1 1 2");
        Tries.due("in the step of the last line", Worlds.run(-1, parts), "d -10000 in 4");
        Tries.due("by an r", Worlds.run(-1, parts + "; r 1"), "d 1 in 5");
        Tries.due("by an error", Worlds.run(-1, parts + "; h 3"), "e 3 in 5");
        Tries.due("by an error, too", Worlds.prints(-1, parts + "; h 3"), "2 1 1 2");
        Tries.due("by an error from a call", Worlds.prints(-1, parts + "; k 3 1 0", "n 1 5; d; p 1; j; h 1"), "5 2 1 1 2");
        Tries.due("a handled error does not leave", Worlds.prints(-1, "n 1 1; y 2; d; p 1; j; h 1; o; p 2; n 1 3; j"), "1 3");
        Tries.due("put off ahead of the error only", Worlds.prints(-1, "n 1 1; y 2; h 1; d; p 1; j; o; j"), "");
        Tries.due("an empty one", Worlds.run(-1, "d; j; z; n 1 1"), "d -10000 in 3");
        ArcKeeper x = Worlds.begun(0, 5, "v 0; c 4 0; e 0 0; d; g 1 4 0; p 1; j; n 2 1; k 3 1 2; r 2; j; j", "z");
        Tries.due("within parts", x.accesses() + " " + x.occupiedBy(0), "1 0");
        x.step(0, 3);
        Tries.due("ahead of the return", x.accesses() + " " + x.occupiedBy(0) + " " + x.at(0), "1 0 9");
        x.step(0, 1);
        Tries.due("the access has ended ahead of it", Worlds.told(x, 0) + " " + Tries.printed(x), "d 1 -10000");
    }

    @Says(promise = 0, words = {"A part is put off when its 'd' is done, and as often.", "'d', the part up to its end is put off;"})
    static void runsPutOffAsOften() {
        Tries.due("not done", Worlds.prints(-1, "? 1; d; p 1; j; j"), "");
        Tries.due("done once", Worlds.prints(0, "? 0; d; p 1; j; j"), "-10000");
        Tries.due("in a loop", Worlds.prints(-1, "n 1 0; n 2 1; l 5; + 1 1 2; d; p 1; n 1 7; j; j"), "5 7 7 7 7");
        Tries.due("in loops", Worlds.prints(-1, "n 1 3; l 3; l 4; d; p 1; j; j; j"), "3 3 3 3 3 3 3 3 3 3 3 3");
        Tries.due("not behind an r", Worlds.prints(-1, "r 1; d; p 1; j"), "");
        Tries.due("each function does its own", Worlds.prints(-1, "n 1 1; d; p 1; j; k 2 1 1; n 1 2; k 2 1 1; n 1 3", "d; p 0; j; n 1 1; n 0 5"),
                "5 5 3");
        Tries.due("a function that is called again", Worlds.prints(-1, "n 1 1; k 2 1 1; k 2 2 1", "d; p 0; j", "n 1 1"), "1");
    }

    @Says(promise = 0, words = "and then its variables are given up, by falling numbers,")
    static void runsVariablesByFallingNumbers() {
        String make = "m 0 2; m 1 0; m 2 1; m 3 2; m 4 1; m 5 0";
        Tries.due("at the end", died(make), "10 11 10 12 11 10 10 12");
        Tries.due("by an r", died(make + "; r 1"), "10 11 10 12 11 10 12");
        Tries.due("by an error", died(make + "; h 1"), "10 11 10 12 11 10 10 12");
        Tries.due("in a call", died("k 1 1 0; m 1 2", make), "10 11 10 12 11 10 10 12 12");
        Tries.due("behind what was put off", died("m 1 0; d; - 1; j; m 2 1; m 3 2"), "10 12 11 10");
    }

    private static String died(String... functions) {
        ArcKeeper x = Worlds.world(functions);
        Worlds.ended(x, x.begin(0, -1, false));
        return Tries.died(x);
    }

    // ---- errors

    @Says(promise = 0, words = {"'y' v, a part that is tried, up to an 'o'; 'o', the part up to the end of this is done if "
        + "an error was thrown in the part that was tried, and the variable of the 'y' is the error then;",
        "'h' n, the error n, 1 to 9, is thrown;"})
    static void runsTriedParts() {
        Tries.due("an error", Worlds.run(-1, "y 2; h 5; n 3 1; o; n 4 1; j; ? 3; r 3; j; r 2"), "d 5 in 6");
        Tries.due("no error", Worlds.run(-1, "y 2; n 3 1; o; n 4 1; j; ? 4; r 4; j; r 2"), "d -10000 in 5");
        Tries.due("no error leaves the variable", Worlds.run(-1, "n 2 8; y 2; o; n 2 1; j; r 2"), "d 8 in 4");
        Tries.due("the number of the variable", Worlds.run(-1, "y 0; h 9; o; j; r 0"), "d 9 in 4");
        Tries.due("the value before", Worlds.prints(-1, "n 2 8; y 2; p 2; h 5; o; p 2; j; p 2"), "8 5 5");
        Tries.due("in a part within", Worlds.run(-1, "y 2; l 5; ? 3; j; h 5; j; o; r 2; j"), "d 5 in 5");
        Tries.due("done again", Worlds.prints(-1, "n 1 1; l 2; y 2; h 5; o; p 2; j; j; p 1"), "5 5 1");
        ArcKeeper x = Worlds.begun(-1, 2, "m 2 2; y 2; h 5; o; z; j");
        x.step(0, 1);
        Tries.due("what the variable owned is given up", x.alive() + " " + x.at(0), "0 4");
    }

    @Says(promise = 0, words = "A thrown error goes to the handler of the innermost part that is tried and in which the "
        + "function is, where the accesses and actors of the parts within end;")
    static void runsHandlers() {
        Tries.due("the innermost one", Worlds.run(-1, "y 2; y 3; h 5; o; n 4 1; j; o; n 4 2; j; r 3"), "d 5 in 7");
        Tries.due("its variable alone", Worlds.run(-1, "y 2; y 3; h 5; o; n 4 1; j; o; n 4 2; j; r 2"), "d -10000 in 7");
        Tries.due("a part that was tried before", Worlds.run(-1, "y 2; o; j; h 5"), "e 5 in 3");
        Tries.due("a part that is tried behind", Worlds.run(-1, "h 5; y 2; o; j"), "e 5 in 1");
        Tries.due("in the part of an o, the outer one", Worlds.run(-1, "y 2; y 3; h 5; o; h 6; j; o; r 2; j"), "d 6 in 5");
        Tries.due("in the part of an o, none", Worlds.run(-1, "y 2; h 5; o; h 6; j"), "e 6 in 3");
        Tries.due("of the caller, not tried there", Worlds.run(-1, "y 2; o; j; k 1 1 0; y 2; o; j", "h 4"), "e 4 in 4");
        ArcKeeper x = Worlds.begun(1, 7, "v 0; e 0 0; y 2; e 0 1; v 0; e 0 2; n 1 1; h 5; j; j; j; o; z; j; j; j");
        Tries.due("within", x.accesses() + " " + x.occupiedBy(0), "3 0");
        x.step(0, 1);
        Tries.due("those within end, those around go on", x.accesses() + " " + x.occupiedBy(0) + " " + x.at(0), "1 0 12");
        x.step(0, 3);
        Tries.dueThrow("the outer one ends as told", Tries.INDEX, () -> x.occupiedBy(1));
        Tries.due("the outer access ended", x.accesses() + " " + x.at(0), "0 15");
    }

    @Says(promise = 0, words = {"if there is none, it leaves the function, and is thrown at the line of the call.",
        "If it leaves the first function, the task ends with it."})
    static void runsErrorsLeave() {
        Tries.due("by one call", Worlds.run(-1, "y 2; k 3 1 2; n 4 1; o; r 2; j", "h 4"), "d 4 in 4");
        Tries.due("by eight calls", Worlds.run(-1, "y 2; k 1 1 0; o; r 2; j", "k 1 2 0", "k 1 3 0", "k 1 4 0", "k 1 5 0", "k 1 6 0", "k 1 7 0", "h 7"),
                "d 7 in 10");
        Tries.due("handled half way", Worlds.run(-1, "y 2; k 3 1 2; o; r 2; j; r 3", "y 2; k 1 2 0; o; + 2 2 2; r 2; j", "h 3"), "d 6 in 9");
        Tries.due("the variable of the call is not set", Worlds.run(-1, "n 3 8; y 2; k 3 1 2; o; r 3; j", "h 4"), "d 8 in 5");
        Tries.due("the task ends", Worlds.run(-1, "k 1 1 0; n 1 1", "k 1 2 0", "h 8"), "e 8 in 3");
        ArcKeeper x = Worlds.begun(2, 3, "m 1 0; k 2 1 1", "owned m 1 1; h 2");
        x.step(0, 1);
        Tries.due("the variables of each, then the object of the task", Tries.died(x) + " " + x.alive(), "11 10 10 12 0");
        ArcKeeper y = Worlds.begun(0, 3, "v 0; e 0 0; k 1 1 0; j; j", "h 1");
        y.step(0, 1);
        Tries.due("the accesses and actors, too", y.accesses() + " " + Tries.outcome(() -> y.occupiedBy(0)) + " " + y.state(0),
                "0 NoSuchElementException e");
    }

    // ---- taking and giving up

    @Says(promise = 0, words = "A value that is set is taken first, then the value before is given up.")
    static void runsTakesFirst() {
        ArcKeeper x = Worlds.begun(-1, 3, "m 1 0; c 1 1; f 1 0 1; f 1 0 1; g 1 1 0; z");
        Tries.due("c of itself", Worlds.owned(x, 0) + " " + Worlds.counts(x), "2 2 2 1");
        x.step(0, 1);
        Tries.due("f of the same", Worlds.owned(x, 0) + " " + Worlds.counts(x), "2 2 3 2");
        x.step(0, 1);
        Tries.due("g of the same", Worlds.owned(x, 0) + " " + Worlds.counts(x), "2 2 4 3");
        ArcKeeper y = Worlds.begun(-1, 6, "m 1 0; m 2 0; f 2 0 1; - 1; m 3 0; f 3 0 2; - 2; g 3 3 0; g 3 3 0; z");
        y.step(0, 2);
        Tries.due("taken out of what dies by that", y.alive() + " " + Worlds.owned(y, 1) + " " + Worlds.owned(y, 0), "2 1 1 1 1");
        y.step(0, 1);
        Tries.due("and again", y.alive() + " " + Worlds.owned(y, 0), "1 1 1");
    }

    @Says(promise = 0, words = "A returned value is taken first, too;")
    static void runsTakesWhatIsReturnedFirst() {
        ArcKeeper x = Worlds.begun(-1, 3, "k 1 1 0; z", "m 1 0; d; - 1; j; r 1");
        x.step(0, 1);
        Tries.due("ahead of what is put off", x.alive() + " " + Worlds.owned(x, 0) + " " + Worlds.counts(x), "1 1 1 1 1");
        Tries.due("what is put off can't change it", Worlds.run(-1, "n 1 1; d; n 1 2; j; r 1"), "d 1 in 3");
    }

    @Says(promise = 0, words = {"The object that is made for a task is owned by the variable 0 if the function owns its "
        + "parameter, and otherwise by the task, which gives it up when its first function has been left;",
        "what that returned is owned by the task for ever."})
    static void runsTheObjectOfATask() {
        ArcKeeper x = Worlds.begun(2, 1, "owned m 1 0; - 0; z");
        x.step(0, 1);
        Tries.due("owned by the variable", x.isAlive(0), false);
        ArcKeeper y = Worlds.begun(2, 2, "m 1 0; - 0; z; n 2 1");
        Tries.due("owned by the task", Worlds.owned(y, 0), "1 1");
        y.step(0, 2);
        Tries.due("given up behind the variables", Tries.died(y), "10 12");
        ArcKeeper z = Worlds.begun(2, 0, "r 0");
        z.step(0, 1);
        Tries.due("returned", Worlds.owned(z, 0) + " " + Worlds.counts(z), "1 1 1 1");
        ArcKeeper w = Worlds.begun(-1, 1, "m 1 0; r 1", "m 1 2; m 2 2; z");
        w.step(0, 1);
        w.begin(1, 1, false);
        w.step(1, 100);
        Tries.due("what was returned lives on", Worlds.owned(w, 0) + " " + w.alive(), "1 1 1");
    }

    @Says(promise = 0, words = "To call gives the parameter to a function that owns it as a value that is kept; "
        + "otherwise the function uses it.")
    static void runsParametersOfCalls() {
        ArcKeeper x = Worlds.begun(-1, 1, "m 1 0; k 2 1 1; k 2 2 1; z", "owned z; n 1 1", "z; n 1 1");
        x.step(0, 1);
        Tries.due("owned", Worlds.owned(x, 0) + " " + Worlds.counts(x), "2 2 1 0");
        x.step(0, 2);
        Tries.due("given up as it is left", Worlds.owned(x, 0) + " " + Worlds.counts(x), "1 1 1 1");
        x.step(0, 1);
        Tries.due("used", Worlds.owned(x, 0) + " " + Worlds.counts(x) + " " + x.depth(0), "1 1 1 1 2");
        x.step(0, 2);
        Tries.due("not given up", Worlds.owned(x, 0) + " " + Worlds.counts(x) + " " + x.depth(0), "1 1 1 1 1");
    }

    @Says(promise = 0, words = "A call within 8 other calls, the first function not counted, is the trap 'd'.")
    static void runsEightCalls() {
        Tries.due("eight", Worlds.run(-1, "k 1 1 0", "k 1 2 0", "k 1 3 0", "k 1 4 0", "k 1 5 0", "k 1 6 0", "k 1 7 0", "? 0; j; n 1 1"),
                "d -10000 in 9");
        String[] eight = {"n 1 1; k 2 1 1", "k 2 2 0", "k 2 3 0", "k 2 4 0", "k 2 5 0", "k 2 6 0", "k 2 7 0", "? 0; k 2 7 1; z; j; z"};
        ArcKeeper x = Worlds.world(eight);
        x.begin(0, -1, false);
        Tries.due("the eighth one calls none", Worlds.ended(x, 0).substring(0, 8), "d -10000");
        Tries.due("nine", Worlds.run(0, "k 1 0 0"), "t d at 0 in 9");
        Tries.due("nine, within a part", Worlds.run(0, "y 2; k 1 0 0; o; j"), "t d at 1 in 18");
        ArcKeeper y = Worlds.world("q 1 0 0");
        y.conform(2, 0, -1);
        y.setDefault(0, 0);
        y.begin(0, 2, false);
        Tries.due("nine by a requirement", Worlds.ended(y, 0), "t d at 0 in 9");
        ArcKeeper z = Worlds.begun(0, true, 9, "owned z; k 1 0 0");
        z.step(0, 9);
        Tries.due("a line that is trapped keeps nothing", Worlds.told(z, 0) + " " + Worlds.owned(z, 0) + " " + z.kept(), "t d at 1 9 9 8");
        Tries.due("again and again, but not within", Worlds.run(-1, "l 5; l 5; k 1 1 0; j; j", "n 1 1"), "d -10000 in 86");
    }

    // ---- traps

    @Says(promise = 0, words = {"Traps. A task is trapped, and ends with all that it owns and has entered:",
        "A line that is trapped has done nothing."})
    static void trapsEndTasks() {
        ArcKeeper x = Worlds.begun(0, 6, "m 1 1; v 0; e 1 1; d; p 1; j; k 2 1 1; j; j", "owned m 2 2; v 2; j");
        x.step(0, 1);
        Tries.due("trapped", Worlds.told(x, 0) + " " + x.depth(0), "t t at 1 2");
        Tries.due("what it owns", Worlds.owned(x, 0) + " " + Worlds.owned(x, 1) + " " + Worlds.owned(x, 2), "1 1 2 2 1 1");
        Tries.due("what it has entered", x.occupiedBy(0) + " " + x.accesses(), "0 1");
        Tries.due("nothing is given up or put off", x.deaths() + " " + x.prints() + " " + x.givenUp(), "0 0 0");
        Tries.due("sound", x.isSound(), true);
        ArcKeeper y = Worlds.begun(1, 2, "m 1 0; n 2 1; f 1 1 2");
        y.step(0, 1);
        Tries.due("f has done nothing", Worlds.told(y, 0) + " " + Worlds.counts(y), "t f at 2 0 0");
        ArcKeeper z = Worlds.begun(1, 2, "m 1 0; n 2 1; g 1 2 0");
        z.step(0, 1);
        Tries.due("g has done nothing", Worlds.told(z, 0) + " " + z.isAlive(1) + " " + Worlds.counts(z), "t n at 2 true 0 0");
        Tries.due("an error is no trap, and a trap no error", Worlds.run(-1, "y 1; g 2 3 0; o; j"), "t n at 1 in 2");
    }

    @Says(promise = 0, words = "'n', what should be an object is none or a number;")
    static void trapN() {
        for (String line : new String[] {"g 1 2 0", "f 2 0 0", "q 1 0 2", "e 2 0; j", "v 2; j"}) {
            Tries.due("none " + line, Worlds.run(0, line), "t n at 0 in 1");
            Tries.due("a number " + line, Worlds.run(0, "n 2 0; " + line), "t n at 1 in 2");
        }
        Tries.due("others take all", Worlds.run(0, "p 1; c 2 1; ? 1; j; k 2 1 1; r 1", ""), "d -10000 in 5");
    }

    @Says(promise = 0, words = "'f', an object has no such field by its kind;")
    static void trapF() {
        for (int field = 0; field < 4; field++) {
            for (int kind = 0; kind < 3; kind++) {
                boolean has = kind == 1 || (kind == 0 && field == 0);
                Tries.due("g " + field, Worlds.run(kind, "g 1 0 " + field), has ? "d -10000 in 1" : "t f at 0 in 1");
                Tries.due("f " + field, Worlds.run(kind, "f 0 " + field + " 1"), has ? "d -10000 in 1" : "t f at 0 in 1");
                Tries.due("e " + field, Worlds.run(kind, "e 0 " + field + "; j"), has ? "d -10000 in 2" : "t f at 0 in 1");
            }
        }
    }

    @Says(promise = 0, words = "'u', an unowned field whose object is not alive is read;")
    static void trapU() {
        String dead = "m 1 2; f 0 2 1; f 0 1 1; - 1; ";
        Tries.due("read", Worlds.run(1, dead + "g 2 0 2"), "t u at 4 in 5");
        Tries.due("set", Worlds.run(1, dead + "f 0 2 5; g 2 0 2"), "d -10000 in 6");
        Tries.due("accessed", Worlds.run(1, dead + "e 0 2; j"), "d -10000 in 6");
        Tries.due("a weak one", Worlds.run(1, dead + "g 2 0 1"), "d -10000 in 5");
        Tries.due("none is fine", Worlds.run(1, "g 2 0 2"), "d -10000 in 1");
        Tries.due("alive is fine", Worlds.run(1, "m 1 2; f 0 2 1; g 2 0 2; r 2"), "d 10002 in 4");
    }

    @Says(promise = 0, words = "'x', a field is read, set or accessed that is accessed exclusively, by whomever;")
    static void trapX() {
        for (int field = 0; field < 4; field++) {
            String begin = "c 1 0; e 0 " + field + "; ";
            Tries.due("read", Worlds.run(1, begin + "g 2 1 " + field + "; j"), "t x at 2 in 3");
            Tries.due("set", Worlds.run(1, begin + "f 1 " + field + " 5; j"), "t x at 2 in 3");
            Tries.due("accessed", Worlds.run(1, begin + "e 1 " + field + "; j; j"), "t x at 2 in 3");
            Tries.due("another field", Worlds.run(1, begin + "g 2 1 " + (field + 1) % 4 + "; j"), "d -10000 in 4");
            Tries.due("of another object", Worlds.run(1, begin + "m 1 1; g 2 1 " + field + "; j"), "d -10000 in 5");
            Tries.due("behind the part", Worlds.run(1, begin + "j; g 2 1 " + field + "; f 1 " + field + " 5"), "d -10000 in 5");
            Tries.due("in a call", Worlds.run(1, begin + "k 2 1 1; j", "g 1 0 " + field), "t x at 0 in 4");
            Tries.due("behind an error", Worlds.run(1, "c 1 0; y 2; e 0 " + field + "; h 1; j; o; g 3 1 " + field + "; j"), "d -10000 in 6");
        }
    }

    @Says(promise = 0, words = {"'e' w f, during the part up to its end, the field f of the object w is accessed exclusively;"})
    static void lineE() {
        ArcKeeper x = Worlds.begun(1, 1, "e 0 3; - 0; e 1 0; z; j; j", "z");
        Tries.due("in the part", x.accesses(), 1);
        x.step(0, 1);
        Tries.due("the variable is set anew", x.accesses(), 1);
        ArcKeeper y = Worlds.begun(0, 3, "owned c 1 0; e 0 0; - 0; f 1 0 5; j");
        y.step(0, 1);
        Tries.due("it is the object that counts", Worlds.told(y, 0), "t x at 3");
        ArcKeeper z = Worlds.begun(0, 2, "e 0 0; m 0 0; f 0 0 0; j; n 1 1; n 1 1");
        z.step(0, 1);
        Tries.due("another object in the variable", Worlds.told(z, 0) + " " + z.accesses(), "r at 3 1");
        z.step(0, 1);
        Tries.due("the part has ended", z.accesses(), 0);
        Tries.due("in a loop, each time", Worlds.run(0, "l 5; e 0 0; j; j"), "d -10000 in 16");
    }

    @Says(promise = 0, words = "'p', a requirement is not met;")
    static void trapP() {
        Tries.due("not told", Worlds.run(0, "q 1 0 0"), "t p at 0 in 1");
        ArcKeeper x = Worlds.world("q 1 0 0", "z");
        x.conform(2, 0, -1);
        x.conform(0, 0, -1);
        x.setWitness(2, 0, 1);
        x.begin(0, 2, false);
        x.begin(0, 0, false);
        Tries.due("met", Worlds.ended(x, 0), "d -10000 in 3");
        Tries.due("told, but there is none", Worlds.ended(x, 1), "t p at 0 in 1");
    }

    @Says(promise = 0, words = {"'t', what should be a number is none, or an object, or a field that is not strong would "
        + "become a number;", "a 'v' of an object whose kind, and all above, are no actors;"})
    static void trapT() {
        Tries.due("none first", Worlds.run(0, "n 1 1; + 2 3 1"), "t t at 1 in 2");
        Tries.due("none second", Worlds.run(0, "n 1 1; + 2 1 3"), "t t at 1 in 2");
        Tries.due("an object first", Worlds.run(0, "n 1 1; + 2 0 1"), "t t at 1 in 2");
        Tries.due("an object second", Worlds.run(0, "n 1 1; + 2 1 0"), "t t at 1 in 2");
        Tries.due("numbers", Worlds.run(0, "n 1 1; + 0 1 1; r 0"), "d 2 in 3");
        for (int field = 0; field < 4; field++) {
            boolean isStrong = field == 0 || field == 3;
            Tries.due("a number into the field " + field, Worlds.run(1, "n 1 1; f 0 " + field + " 1"),
                    isStrong ? "d -10000 in 2" : "t t at 1 in 2");
        }
        Tries.due("an actor", Worlds.run(0, "v 0; j"), "d -10000 in 2");
        Tries.due("an actor by its parent", Worlds.run(1, "v 0; j"), "d -10000 in 2");
        Tries.due("no actor", Worlds.run(2, "v 0; j"), "t t at 0 in 1");
    }

    @Says(promise = 0, words = {"'d' as told;", "traps are looked at in the order of the numbers of a line, and for one number in this order."})
    static void trapsInOrder() {
        Tries.due("n ahead of f", Worlds.run(0, "g 1 2 1"), "t n at 0 in 1");
        Tries.due("n ahead of t", Worlds.run(1, "n 1 1; f 1 1 1"), "t n at 1 in 2");
        Tries.due("f ahead of t", Worlds.run(0, "n 1 1; f 0 1 1"), "t f at 1 in 2");
        Tries.due("x ahead of t", Worlds.run(1, "n 1 1; c 2 0; e 0 1; f 2 1 1; j"), "t x at 3 in 4");
        Tries.due("u ahead of x", Worlds.run(1, "m 1 2; f 0 2 1; - 1; c 2 0; e 0 2; g 3 2 2; j"), "t u at 5 in 6");
        String[] calls = {"k 2 1 0", "k 2 2 0", "k 2 3 0", "k 2 4 0", "k 2 5 0", "k 2 6 0", "k 2 7 0", ""};
        String[] ways = {"q 1 0 3", "t n at 3 in 11", "m 3 2; q 1 0 3", "t p at 4 in 12", "m 3 0; q 1 0 3", "t d at 4 in 12"};
        for (int way = 0; way < ways.length; way += 2) {
            calls[7] = "? 0; k 2 7 1; j; " + ways[way];
            ArcKeeper x = Worlds.world(calls);
            x.conform(0, 0, -1);
            x.setDefault(0, 1);
            x.begin(0, 0, false);
            Tries.due("n ahead of p ahead of d: " + ways[way], Worlds.ended(x, 0), ways[way + 1]);
        }
    }

    // ---- deaths

    @Says(promise = 0, words = {"Deaths. An object whose count becomes 0 is not alive any more: the code of its kind is noted, "
        + "then that of its parent, and so on;", "Then the count of an object stays 0."})
    static void deathsNoteCodes() {
        ArcKeeper x = new ArcKeeper();
        for (int kind = 0; kind < 8; kind++) {
            x.addKind(kind - 1, false);
            x.setCode(kind, kind * 100);
        }
        Tries.function(x, false, "m 1 7; - 1; m 1 3; - 1; m 1 0; - 1");
        x.begin(0, -1, false);
        x.step(0, 2);
        Tries.due("eight codes", Tries.died(x), "700 600 500 400 300 200 100 0");
        x.step(0, 2);
        Tries.due("four codes more", Tries.died(x).substring(30), "300 200 100 0");
        x.step(0, 2);
        Tries.due("one code more", x.deaths() + " " + x.deathAt(12), "13 0");
        for (int object = 0; object < 3; object++) {
            Tries.due("not alive any more", x.isAlive(object) + " " + Worlds.owned(x, object), "false 0 0");
        }
    }

    @Says(promise = 0, words = "then its fields are given up, those of its kind by rising numbers, then those of its parent, "
        + "and so on, where what dies by that is done at once.")
    static void deathsGiveUpFields() {
        ArcKeeper x = new ArcKeeper();
        x.addKind(-1, false);
        x.addKind(0, false);
        x.addKind(1, false);
        for (int kind = 3; kind < 8; kind++) {
            x.addKind(-1, false);
        }
        for (int kind = 0; kind < 8; kind++) {
            x.setCode(kind, kind + 1);
        }
        int[] owners = {0, 2, 1, 2, 0, 1};
        for (int owner : owners) {
            x.addField(owner, 's');
        }
        x.addField(3, 's');
        Tries.function(x, false, "m 1 2; m 2 3; m 3 4; f 2 6 3; f 1 0 2; m 2 5; f 1 1 2; m 2 6; f 1 2 2; m 2 7; f 1 3 2; "
                + "n 2 5; f 1 4 2; m 2 4; f 1 5 2; - 2; - 3; - 1");
        x.begin(0, -1, false);
        x.step(0, 17);
        Tries.due("nothing yet", x.deaths(), 0);
        x.step(0, 1);
        Tries.due("its own, those of its parent, those of the next one", Tries.died(x), "3 2 1 6 8 7 5 4 5");
        Tries.due("all have died", x.alive(), 0);
    }

    @Says(promise = 0, words = "where what dies by that is done at once.")
    static void deathsBringOthers() {
        ArcKeeper x = Worlds.begun(1, 9, "m 1 0; m 2 2; f 1 0 2; f 0 0 1; m 1 0; m 2 1; f 1 0 2; f 0 3 1; - 1; - 2; m 0 2; z");
        x.step(0, 2);
        Tries.due("the task owns it still", x.deaths() + " " + x.alive(), "0 6");
        x.step(0, 2);
        Tries.due("then all die in this order", Tries.died(x), "12 11 10 10 11 10 10 12");
        ArcKeeper y = Worlds.begun(-1, 6, "m 1 0; m 2 2; f 1 0 2; m 3 0; f 3 0 2; - 2; - 1; - 3; z");
        y.step(0, 1);
        Tries.due("one that is owned by another lives on", Tries.died(y) + " " + Worlds.owned(y, 1), "10 1 1");
        y.step(0, 1);
        Tries.due("and dies with that", Tries.died(y), "10 10 12");
        ArcKeeper z = Worlds.begun(-1, 4, "m 1 0; m 2 0; f 1 0 2; f 2 0 1; - 1; - 2; z");
        z.step(0, 2);
        Tries.due("two that own each other live on", z.alive() + " " + z.deaths() + " " + z.isSound(), "2 0 true");
        ArcKeeper w = Worlds.begun(-1, 4, "m 1 1; m 2 1; f 1 1 2; f 2 0 1; - 1; - 2; z");
        w.step(0, 2);
        Tries.due("not if one is weak", w.alive() + " " + Tries.died(w), "0 11 10 11 10");
    }

    @Says(promise = 0, words = "then its fields are given up, those of its kind by rising numbers, then those of its parent,")
    static void deathsGiveUpTwelveFields() {
        ArcKeeper x = new ArcKeeper();
        x.addKind(-1, false);
        x.addKind(-1, false);
        for (int field = 0; field < 12; field++) {
            x.addField(field < 6 ? 0 : 1, 's');
        }
        x.addKind(0, false);
        x.addKind(2, false);
        for (int kind = 0; kind < 4; kind++) {
            x.setCode(kind, kind + 1);
        }
        Tries.function(x, false, "m 1 3; m 2 1; f 1 0 2; m 2 0; f 1 5 2; m 2 2; f 1 3 2; m 3 1; f 2 2 3; - 2; - 3; - 1");
        x.begin(0, -1, false);
        x.step(0, 12);
        Tries.due("of a kind that was added behind its fields", Tries.died(x) + " " + x.alive(), "4 3 1 2 3 1 2 1 0");
        ArcKeeper y = new ArcKeeper();
        y.addKind(-1, false);
        y.addKind(-1, false);
        y.addKind(0, false);
        StringBuilder text = new StringBuilder("m 1 0");
        for (int field = 0; field < 12; field++) {
            y.addField(0, 's');
        }
        for (int field = 11; field >= 2; field--) {
            text.append("; m 2 1; f 1 ").append(field).append(" 2");
        }
        y.setCode(0, 10);
        y.setCode(1, 11);
        Tries.function(y, false, text + "; - 2; - 1");
        y.begin(0, -1, false);
        y.step(0, 22);
        Tries.due("none yet", y.deaths() + " " + y.alive(), "0 11");
        y.step(0, 1);
        Tries.due("ten of twelve fields", Tries.died(y) + " " + y.alive(), "10 11 11 11 11 11 11 11 11 11 11 0");
        ArcKeeper z = new ArcKeeper();
        for (int kind = 0; kind < 8; kind++) {
            z.addKind(kind - 1, false);
        }
        for (int field = 0; field < 12; field++) {
            z.addField(0, 's');
        }
        Tries.function(z, false, "m 1 0; m 2 6; f 1 11 2; m 2 6; f 1 0 2; - 2; - 1");
        Tries.function(z, false, "m 1 7; m 2 6; f 1 11 2; m 2 6; f 1 0 2; - 2; - 1");
        for (int task = 0; task < 2; task++) {
            z.begin(task, -1, false);
            z.step(task, 6);
            Tries.due("none yet", z.alive(), 3);
            z.step(task, 1);
            Tries.due("the first and the last field, of eight kinds", z.alive() + " " + z.deaths(), "0 " + (task == 0 ? 15 : 15 + 22));
        }
    }

    @Says(promise = 0, words = "where what dies by that is done at once.")
    static void deathsOfHundredFifty() {
        ArcKeeper x = Worlds.world("l 5; l 5; l 5; m 1 0; f 1 0 2; c 2 1; j; j; j; l 5; l 5; m 1 0; f 1 0 2; c 2 1; j; j; - 1; z; - 2; z");
        x.begin(0, -1, false);
        while (x.at(0) < 18) {
            x.step(0, 1);
        }
        Tries.due("a chain", x.alive() + " " + Worlds.owned(x, 149) + " " + Worlds.owned(x, 0), "150 1 1 1 1");
        x.step(0, 1);
        Tries.due("dies at once", x.alive() + " " + x.deaths() + " " + x.isSound(), "0 150 true");
        Tries.due("its codes", Tries.died(x), "10" + " 10".repeat(149));
        ArcKeeper y = new ArcKeeper();
        y.addKind(-1, false);
        for (int field = 0; field < 12; field++) {
            y.addField(0, 's');
        }
        Tries.function(y, false, "l 5; l 5; l 5; m 1 0; j; j; j; l 5; l 5; m 1 0; j; j; n 2 7; f 1 11 2; g 3 1 11; p 3; c 4 1; e 1 11; g 5 1 10; f 4 11 2; j");
        y.begin(0, -1, false);
        Tries.due("the last field of the last object", Worlds.ended(y, 0).substring(0, 9) + " " + Tries.printed(y) + " " + y.accesses(), "t x at 19 7 1");
    }

    // ---- actors

    @Says(promise = 0, words = {"'v' w, during the part up to its end, the task is in the actor w;",
        "Actors. A task that does an 'v' enters the actor if no other task is in it, or it is in it itself already;"})
    static void actorsAreEntered() {
        ArcKeeper x = Worlds.begun(0, 1, "v 0; n 1 1; - 0; j; n 1 1; n 1 1");
        Tries.due("in it", x.occupiedBy(0), 0);
        x.step(0, 2);
        Tries.due("the variable is set anew", x.occupiedBy(0), 0);
        x.step(0, 1);
        Tries.dueThrow("the part has ended", Tries.MISSING, () -> x.occupiedBy(0));
        ArcKeeper y = Worlds.begun(0, 4, "v 0; k 1 1 0; z; j", "v 0; v 0; z; j; j");
        Tries.due("in it already, by a call", y.occupiedBy(0) + " " + y.state(0), "0 r");
    }

    @Says(promise = 0, words = "An actor that was entered twice is left when the outer part ends.")
    static void actorsEnteredTwice() {
        ArcKeeper x = Worlds.begun(0, 3, "v 0; v 0; v 0; n 1 1; j; j; j; n 1 1; n 1 1");
        for (int left = 0; left < 3; left++) {
            Tries.due("in it", x.occupiedBy(0) + " " + x.isSound(), "0 true");
            x.step(0, 1);
        }
        Tries.due("two parts have ended", x.occupiedBy(0) + " " + x.at(0), "0 6");
        x.step(0, 1);
        Tries.dueThrow("the outer one has", Tries.MISSING, () -> x.occupiedBy(0));
        ArcKeeper y = Worlds.begun(0, 3, "v 0; k 1 1 0; n 1 1; j; n 1 1; n 1 1", "v 0; r 0; j");
        y.step(0, 1);
        Tries.due("the inner one of a call", y.occupiedBy(0) + " " + y.depth(0), "0 1");
        y.step(0, 2);
        Tries.dueThrow("the outer one of its caller", Tries.MISSING, () -> y.occupiedBy(0));
        ArcKeeper z = Worlds.begun(0, 3, "v 0; v 0; z; j; n 1 1; j; n 1 1; n 1 1");
        Tries.dueThrow("a z leaves it", Tries.MISSING, () -> z.occupiedBy(0));
        z.step(0, 1);
        Tries.due("entered again, and the inner part ended", z.occupiedBy(0), 0);
        z.step(0, 1);
        Tries.due("still in the outer one", z.occupiedBy(0), 0);
        z.step(0, 1);
        Tries.dueThrow("it has ended", Tries.MISSING, () -> z.occupiedBy(0));
    }

    @Says(promise = 0, words = {"'z', the task waits;", "A 'z' leaves all actors; in the next step, if no other task is in one "
        + "of them, the task enters all of them again, and does the next line, or returns, in this step;",
        "otherwise it waits, which counts as a step."})
    static void actorsAreLeftByZ() {
        ArcKeeper x = Worlds.begun(0, 4, "m 1 1; v 0; v 1; z; n 2 1; z; z; j; j; n 1 1");
        for (int object = 0; object < 2; object++) {
            int asked = object;
            Tries.dueThrow("all are left", Tries.MISSING, () -> x.occupiedBy(asked));
        }
        Tries.due("a z is a step, its next line in the next one", Worlds.told(x, 0) + " " + x.isSound(), "r at 4 true");
        x.step(0, 1);
        Tries.due("all are entered again, and the next line is done", x.occupiedBy(0) + " " + x.occupiedBy(1) + " " + x.at(0), "0 0 5");
        x.step(0, 2);
        Tries.dueThrow("a z behind a z", Tries.MISSING, () -> x.occupiedBy(0));
        x.step(0, 1);
        Tries.due("the end of a part as the next line", x.occupiedBy(0) + " " + Tries.outcome(() -> x.occupiedBy(1)) + " " + x.at(0),
                "0 NoSuchElementException 8");
        ArcKeeper y = Worlds.begun(0, 3, "v 0; k 1 1 0; p 1; j", "z");
        Tries.due("the last line of a call", Worlds.told(y, 0) + " " + y.depth(0), "r at 1 2");
        Tries.dueThrow("a z in a call leaves those of its caller", Tries.MISSING, () -> y.occupiedBy(0));
        y.step(0, 1);
        Tries.due("it returns in the next step", y.occupiedBy(0) + " " + Worlds.told(y, 0) + " " + y.depth(0) + " " + y.prints(), "0 r at 2 1 0");
        ArcKeeper z = Worlds.begun(0, 2, "v 0; z; r 0; j");
        z.step(0, 1);
        Tries.due("a return as the next line", Worlds.told(z, 0) + " " + Tries.outcome(() -> z.occupiedBy(0)), "d 10000 NoSuchElementException");
        ArcKeeper w = Worlds.begun(0, 2, "v 0; z; h 3; j");
        w.step(0, 1);
        Tries.due("an error as the next line", Worlds.told(w, 0) + " " + Tries.outcome(() -> w.occupiedBy(0)), "e 3 NoSuchElementException");
        ArcKeeper v = Worlds.begun(0, 2, "v 0; z; v 1; j; j");
        v.step(0, 1);
        Tries.due("a trap as the next line", Worlds.told(v, 0) + " " + v.occupiedBy(0) + " " + v.isSound(), "t n at 2 0 true");
        ArcKeeper u = Worlds.begun(0, 3, "e 0 0; v 0; z; j; j");
        Tries.due("accesses go on", u.accesses(), 1);
    }

    /** No task can reach an actor of another one, so that the test itself puts a task into it. */
    @Says(promise = 0, words = "otherwise it waits: the line is done again in the next step, which counts as a step.")
    static void actorsThatAreOccupiedAreWaitedFor() {
        ArcKeeper x = Worlds.world("v 0; n 1 1; j; n 1 1");
        x.begin(0, 0, false);
        x.begin(0, 0, false);
        Tries.due("as it begins", Worlds.told(x, 0), "r at 0");
        if (!Inside.set(x, "occupants", 0, 1)) {
            return;
        }
        Tries.due("it waits in each step", x.step(0, 7) + " " + Worlds.told(x, 0) + " " + x.meanSteps(), "7 w at 0 3.5");
        Tries.due("the other one is in it", x.occupiedBy(0), 1);
        Tries.due("another actor is free", x.step(1, 1) + " " + x.occupiedBy(1), "1 1");
        Inside.set(x, "occupants", 0, -1);
        Tries.due("it enters", x.step(0, 1) + " " + Worlds.told(x, 0) + " " + x.occupiedBy(0), "1 r at 1 0");
        Tries.due("and goes on", x.step(0, 100) + " " + Worlds.told(x, 0), "3 d -10000");
    }

    @Says(promise = 0, words = {"in the next step, if no other task is in one of them, the task enters all of them again,",
        "otherwise it waits, which counts as a step."})
    static void actorsThatAreOccupiedAreNotEnteredAgain() {
        ArcKeeper x = Worlds.world("m 1 0; v 0; v 1; z; n 2 1; j; j");
        x.begin(0, 0, false);
        x.begin(0, 0, false);
        x.step(0, 4);
        Tries.due("behind a z", Worlds.told(x, 0), "r at 4");
        for (int object = 0; object < 3; object += 2) {
            if (!Inside.set(x, "occupants", object, 1)) {
                return;
            }
            Tries.due("one of them is occupied", x.step(0, 2) + " " + Worlds.told(x, 0), "2 w at 4");
            int other = 2 - object;
            Tries.dueThrow("the other one is not entered", Tries.MISSING, () -> x.occupiedBy(other));
            Inside.set(x, "occupants", object, -1);
        }
        Tries.due("all are entered", x.step(0, 1) + " " + Worlds.told(x, 0) + " " + x.occupiedBy(0) + " " + x.occupiedBy(2), "1 r at 5 0 0");
    }

    // ---- the most of each

    @Says(promise = 0, words = "all other ends go on.")
    static void runsTwelvePartsWithinEachOther() {
        String ends = "j" + "; j".repeat(11);
        Tries.due("loops", Worlds.run(-1, "l 1; ".repeat(12) + ends), "d -10000 in 24");
        Tries.due("done if", Worlds.run(0, "? 0; ".repeat(12) + ends), "d -10000 in 24");
        Tries.due("an error from the innermost one", Worlds.run(0, "y 1; " + "? 0; ".repeat(10) + "h 4; " + "j; ".repeat(10) + "o; j"),
                "d -10000 in 13");
        ArcKeeper x = Worlds.begun(0, 12, "v 0; ".repeat(12) + ends);
        for (int left = 12; left > 0; left--) {
            Tries.due("in the actor", x.occupiedBy(0) + " " + x.isSound(), "0 true");
            x.step(0, 1);
        }
        Tries.due("not in it", Worlds.told(x, 0) + " " + Tries.outcome(() -> x.occupiedBy(0)), "d -10000 NoSuchElementException");
        ArcKeeper z = Worlds.begun(0, 22, "? 0; " + "v 0; ".repeat(11) + ends);
        Tries.due("in the outermost actor", z.occupiedBy(0), 0);
        z.step(0, 1);
        Tries.due("not in it, but in a part", z.at(0) + " " + Tries.outcome(() -> z.occupiedBy(0)), "23 NoSuchElementException");
        Tries.due("loops within nine parts", Worlds.prints(0, "? 0; ".repeat(9) + "l 2; l 1; p 0; " + "j; ".repeat(11).trim()), "10000 10000");
        ArcKeeper y = new ArcKeeper();
        y.addKind(-1, false);
        StringBuilder text = new StringBuilder();
        for (int field = 0; field < 11; field++) {
            y.addField(0, 's');
            text.append("e 0 ").append(field).append("; ");
        }
        Tries.function(y, false, text + "n 1 1" + "; j".repeat(11));
        y.begin(0, 0, false);
        for (int step = 1; step <= 11; step++) {
            y.step(0, 1);
            Tries.due("accesses", y.accesses(), step);
        }
        y.step(0, 1);
        for (int left = 10; left >= 0; left--) {
            y.step(0, 1);
            Tries.due("accesses that are left", y.accesses(), left);
        }
    }

    @Says(promise = 0, words = {"A part is put off when its 'd' is done, and as often.", "the latest one first, line by line, without their 'j',"})
    static void runsManyPartsThatArePutOff() {
        ArcKeeper x = Worlds.world("n 1 0; n 2 1; l 5; l 5; l 5; d; p 1; + 1 1 2; j; j; j; j");
        x.begin(0, -1, false);
        Tries.due("steps", Worlds.ended(x, 0), "d -10000 in 313");
        Tries.due("as often", x.prints(), 125);
        for (int index = 0; index < 125; index++) {
            Tries.due("one behind the other", x.printAt(index), index);
        }
    }

    @Says(promise = 0, words = {"'o', the part up to the end of this is done if an error was thrown in the part that was tried,"})
    static void runsHandlersThatAreNotDone() {
        Tries.due("no error", Worlds.prints(-1, "n 1 1; y 2; p 1; o; n 1 5; p 1; j; p 1"), "1 1");
        Tries.due("in a loop", Worlds.prints(-1, "n 1 1; l 3; y 2; p 1; o; p 2; j; j; p 1"), "1 1 1 1");
        Tries.due("beside parts that are put off", Worlds.prints(-1, "n 1 1; n 3 3; d; p 3; j; y 2; p 1; o; p 3; j"), "1 3");
    }

    @Says(promise = 0, words = "A line that is trapped has done nothing.")
    static void trapsInPartsThatArePutOff() {
        ArcKeeper x = Worlds.begun(0, 5, "e 0 0; k 2 1 0; n 1 1; j", "m 1 2; d; f 0 0 1; g 3 0 0; j; n 2 2; n 2 2");
        Tries.due("ahead of the return", Worlds.told(x, 0) + " " + Worlds.owned(x, 1), "r at 6 1 1");
        x.step(0, 1);
        Tries.due("f", Worlds.told(x, 0) + " " + Worlds.owned(x, 1) + " " + Worlds.counts(x) + " " + x.depth(0), "t x at 2 1 1 0 0 2");
        ArcKeeper y = Worlds.world("l 5; l 5; l 5; m 1 2; j; j; j; l 5; l 5; m 1 2; j; j; d; m 1 0; j; n 2 2; z; m 1 2; n 2 2");
        y.begin(0, -1, false);
        Tries.due("m is trapped", Worlds.ended(y, 0).substring(0, 9), "t m at 17");
        ArcKeeper z = Worlds.world("l 5; l 5; l 5; m 1 2; j; j; j; l 5; l 5; m 1 2; j; j; d; m 1 0; j; n 2 2");
        z.begin(0, -1, false);
        Tries.due("m in a part that is put off", Worlds.ended(z, 0).substring(0, 9), "t m at 13");
        Tries.due("nothing was made", z.made() + " " + z.alive() + " " + Worlds.owned(z, 149), "150 1 1 1");
        ArcKeeper w = Worlds.begun(0, 2, "d; c 1 0; + 2 3 3; c 1 0; j; n 1 1; n 1 1");
        w.step(0, 1);
        Tries.due("the lines ahead of it are done, those behind it are not", Worlds.told(w, 0) + " " + Worlds.counts(w), "t t at 2 1 0");
    }

    @Says(promise = 0, words = "A 'z' leaves all actors; in the next step, if no other task is in one of them, "
        + "the task enters all of them again,")
    static void actorsAreTheOnlyPartsThatAreLeft() {
        String make = "m 1 0; m 2 0; m 3 0; m 4 0; ";
        ArcKeeper x = Worlds.begun(0, 9, make + "l 3; ? 0; e 0 0; y 5; z; n 5 5; z; o; j; j; j; j");
        for (int step = 0; step < 12; step++) {
            for (int object = 0; object < 5; object++) {
                int asked = object;
                Tries.dueThrow("no actor was entered", Tries.MISSING, () -> x.occupiedBy(asked));
            }
            Tries.due("the access goes on", x.accesses() > 0 || x.at(0) < 7 || x.at(0) > 13, true);
            x.step(0, 1);
        }
        ArcKeeper y = Worlds.begun(0, 6, "v 0; v 0; ? 0; y 5; l 1; z; n 1 1; j; o; j; j; j; n 1 1; j; n 1 1");
        y.step(0, 5);
        Tries.due("the inner one is left, with all parts in it", y.at(0) + " " + y.occupiedBy(0) + " " + y.isSound(), "12 0 true");
        y.step(0, 2);
        Tries.dueThrow("the outer one is left", Tries.MISSING, () -> y.occupiedBy(0));
        ArcKeeper z = Worlds.begun(0, 3, "e 0 0; j; z");
        z.step(0, 1);
        Tries.due("a z behind an access", Worlds.told(z, 0) + " " + z.accesses(), "d -10000 0");
        ArcKeeper w = Worlds.begun(0, 5, "v 0; k 1 1 0; n 1 1; j", "v 0; j; z");
        w.step(0, 1);
        Tries.due("a z behind an actor, in a call", Worlds.told(w, 0) + " " + w.occupiedBy(0), "r at 2 0");
    }

    @Says(promise = 0, words = "enters the actor if no other task is in it,")
    static void actorsOfTheFirstTask() {
        ArcKeeper x = Worlds.world("v 0; j");
        x.begin(0, 0, false);
        x.begin(0, 0, false);
        Tries.due("as it begins", Worlds.told(x, 1), "r at 0");
        if (Inside.set(x, "occupants", 1, 0)) {
            Tries.due("the task 0 is in it", x.step(1, 3) + " " + Worlds.told(x, 1) + " " + x.occupiedBy(1), "3 w at 0 0");
        }
    }
}
