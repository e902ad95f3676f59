/** Promises 27 to 40 and 43: each sentence on its own, with the last value that is taken and the first that is refused. */
public final class ObjectsSentencesTest {
    private ObjectsSentencesTest() {}

    public static void main(String[] args) {
        Tries.runAll(ObjectsSentencesTest.class);
    }

    /** Three objects, of the kinds 2, 1 and 0, of which the second one has died. */
    private static ArcKeeper three() {
        return Worlds.begun(-1, 4, "m 1 2; m 2 1; - 2; m 3 0; z");
    }

    // ---- promises 27 and 28

    @Says(promise = 27, words = {"Returns how many objects were made.", "Returns the number of objects."})
    static void promise27Made() {
        ArcKeeper x = Worlds.world("m 1 0; m 1 0; - 1; n 2 1; g 3 2 0", "m 1 1; r 1");
        Tries.due("no task", x.made(), 0);
        x.begin(0, -1, false);
        Tries.due("a task without an object", x.made(), 0);
        x.begin(0, 2, false);
        Tries.due("a task with one", x.made(), 1);
        x.step(0, 1);
        Tries.due("a line", x.made(), 2);
        x.step(0, 1);
        Tries.due("in place of another one", x.made(), 3);
        x.step(0, 2);
        Tries.due("a dead one counts", x.made(), 3);
        x.step(0, 1);
        Tries.due("and those of a task that is trapped", x.made() + " " + x.state(0), "3 t");
        x.begin(1, -1, true);
        x.step(2, 2);
        Tries.due("of another task", x.made(), 4);
    }

    @Says(promise = 28, words = {"Returns how many objects are alive.", "Returns the number of objects."})
    static void promise28Alive() {
        ArcKeeper x = Worlds.world("m 1 0; m 1 0; f 1 0 0; - 1; z", "");
        Tries.due("no task", x.alive(), 0);
        x.begin(0, 2, false);
        Tries.due("a task with an object", x.alive(), 1);
        x.step(0, 1);
        Tries.due("a line", x.alive(), 2);
        x.step(0, 1);
        Tries.due("in place of another one", x.alive(), 2);
        x.step(0, 1);
        Tries.due("in a field", x.alive(), 2);
        x.step(0, 1);
        Tries.due("one dies", x.alive(), 1);
        x.begin(1, 0, false);
        Tries.due("one that dies as its task begins", x.alive() + " " + x.made(), "1 4");
        x.step(0, 2);
        Tries.due("all have died", x.alive() + " " + x.made(), "0 4");
    }

    @Says(promise = 0, words = "'m', there are 150 objects already, also those that are not alive;")
    static void promise27HundredFifty() {
        String most = "l 5; l 5; l 5; m 1 2; j; j; j; l 4; l 5; m 1 2; j; j; m 1 2; m 1 2; m 1 2; m 1 2";
        Tries.due("150", Worlds.run(-1, most + "; m 1 2; z").substring(0, 8), "d -10000");
        Tries.due("150 with that of the task", Worlds.run(2, most + "; z").substring(0, 8), "d -10000");
        Tries.due("the next one", Worlds.run(-1, most + "; m 1 2; m 1 2").substring(0, 9), "t m at 17");
        Tries.due("the next one with that of the task", Worlds.run(2, most + "; m 1 2").substring(0, 9), "t m at 16");
        ArcKeeper x = Worlds.world(most + "; m 1 2; z; m 1 2");
        x.begin(0, -1, false);
        x.begin(0, -1, false);
        while (x.at(0) < 18) {
            x.step(0, 1);
        }
        Tries.due("all made, one alive", x.made() + " " + x.alive(), "150 1");
        x.step(1, 3);
        Tries.due("ahead of the first one of another task", Worlds.told(x, 1), "r at 3");
        x.step(1, 1);
        Tries.due("it is trapped", Worlds.told(x, 1) + " " + x.made(), "t m at 3 150");
        Tries.dueRange("objects", 0, 149, n -> 2, Tries.INDEX, x::kindOf);
        x.step(0, 1);
        Tries.due("nothing was done, so that the variable keeps its object", Worlds.told(x, 0) + " " + x.isAlive(149), "t m at 18 true");
    }

    // ---- promises 29 to 33

    @Says(promise = 29, words = {"Returns whether an object is alive.", "`object`: the object", "Returns whether it is.",
        "Throws `IndexOutOfBoundsException` if there is no such object"})
    static void promise29IsAlive() {
        Tries.dueRange("object", 0, 2, n -> n != 1, Tries.INDEX, n -> three().isAlive(n));
        Tries.dueThrow("no objects", Tries.INDEX, () -> Worlds.world().isAlive(0));
        ArcKeeper x = Worlds.begun(-1, 2, "m 1 0; c 2 1; - 1; - 2; z");
        Tries.due("owned twice", x.isAlive(0), true);
        x.step(0, 1);
        Tries.due("owned once", x.isAlive(0), true);
        x.step(0, 1);
        Tries.due("not owned", x.isAlive(0), false);
    }

    @Says(promise = 30, words = {"Returns the kind of an object.", "`object`: the object", "Returns the kind.",
        "Throws `IndexOutOfBoundsException` if there is no such object"})
    static void promise30KindOf() {
        Tries.dueRange("object", 0, 2, n -> 2 - n, Tries.INDEX, n -> three().kindOf(n));
        Tries.dueThrow("no objects", Tries.INDEX, () -> Worlds.world().kindOf(0));
        ArcKeeper x = new ArcKeeper();
        for (int i = 0; i < 8; i++) {
            x.addKind(-1, false);
        }
        Tries.function(x, false, "m 1 7; m 1 6; m 1 5; m 1 4; m 1 3; m 1 2; m 1 1; m 1 0; z");
        x.begin(0, -1, false);
        x.step(0, 8);
        for (int i = 0; i < 8; i++) {
            Tries.due("kind, alive or not", x.kindOf(i), 7 - i);
        }
    }

    @Says(promise = 31, words = {"Returns the count of an object.", "`object`: the object",
        "Returns the count, 0 if it is not alive.", "Throws `IndexOutOfBoundsException` if there is no such object"})
    static void promise31CountOf() {
        Tries.dueRange("object", 0, 2, n -> n == 1 ? 0 : 1, Tries.INDEX, n -> three().countOf(n));
        Tries.dueThrow("no objects", Tries.INDEX, () -> Worlds.world().countOf(0));
        ArcKeeper x = Worlds.begun(-1, 0, "m 0 0; c 1 0; c 2 0; f 0 0 0; c 3 2; - 3; - 2; - 1; z");
        int[] counts = {1, 2, 3, 4, 5, 4, 3, 2};
        for (int count : counts) {
            x.step(0, 1);
            Tries.due("count", x.countOf(0), count);
        }
        x.step(0, 2);
        Tries.due("it owns itself", x.countOf(0) + " " + x.state(0), "1 d");
    }

    @Says(promise = 32, words = {
        "Returns how many owners an object has, found by looking at all variables, fields and results.",
        "`object`: the object", "Returns the number of owners.",
        "Throws `IndexOutOfBoundsException` if there is no such object"})
    static void promise32OwnersOf() {
        Tries.dueRange("object", 0, 2, n -> n == 1 ? 0 : 1, Tries.INDEX, n -> three().ownersOf(n));
        Tries.dueThrow("no objects", Tries.INDEX, () -> Worlds.world().ownersOf(0));
        ArcKeeper x = Worlds.begun(-1, 2, "m 0 1; m 1 2; f 0 1 1; f 0 2 1; f 0 0 1; f 0 3 1; c 5 1; k 2 1 1; k 2 2 1; r 1",
                "z", "owned z; r 0");
        Tries.due("a variable", x.ownersOf(1), 1);
        x.step(0, 2);
        Tries.due("a weak and an unowned field don't own", x.ownersOf(1), 1);
        x.step(0, 1);
        Tries.due("a strong field", x.ownersOf(1), 2);
        x.step(0, 1);
        Tries.due("two strong fields", x.ownersOf(1), 3);
        x.step(0, 1);
        Tries.due("two variables", x.ownersOf(1), 4);
        x.step(0, 2);
        Tries.due("a parameter that is not owned", x.ownersOf(1) + " " + x.depth(0), "4 2");
        x.step(0, 3);
        Tries.due("a parameter that is owned", x.ownersOf(1) + " " + x.depth(0), "5 2");
        x.step(0, 1);
        Tries.due("what was returned", x.ownersOf(1) + " " + x.depth(0), "5 1");
        x.step(0, 1);
        Tries.due("the result", Worlds.owned(x, 1) + " " + x.state(0), "1 1 d");
        Tries.due("one that has died", Worlds.owned(x, 0), "0 0");
    }

    @Says(promise = 32, words = "all variables, fields and results.")
    static void promise32AllTasks() {
        ArcKeeper x = Worlds.world("r 0", "z; z");
        for (int i = 0; i < 6; i++) {
            x.begin(i % 2, 0, false);
        }
        for (int i = 0; i < 6; i += 2) {
            x.step(i, 1);
        }
        for (int i = 0; i < 6; i++) {
            Tries.due("the result of a task, or the task itself", Worlds.owned(x, i) + " " + x.state(i), "1 1 " + "dr".charAt(i % 2));
        }
    }

    @Says(promise = 33, words = {"Returns the task that is in an actor.", "`object`: the object", "Returns the task.",
        "Throws `IndexOutOfBoundsException` if there is no such object",
        "Throws `NoSuchElementException` if none is"})
    static void promise33OccupiedBy() {
        ArcKeeper x = Worlds.world("m 1 1; m 2 2; v 1; v 0; z; j; j; z", "v 0; z; j");
        for (int i = 0; i < 6; i++) {
            x.begin(i == 4 ? 0 : 1, 0, false);
        }
        x.step(4, 4);
        x.step(5, 1);
        Object[] want = {"-", "-", "-", "-", 4, 5, 4, "-"};
        Tries.dueRange("object", 0, 7, n -> want[n] instanceof Integer ? want[n] : "NoSuchElementException", Tries.INDEX, x::occupiedBy);
        Tries.dueThrow("no objects", Tries.INDEX, () -> Worlds.world().occupiedBy(0));
        x.step(4, 1);
        Tries.dueThrow("left by a z", Tries.MISSING, () -> x.occupiedBy(4));
        Tries.dueThrow("left by a z", Tries.MISSING, () -> x.occupiedBy(6));
        Tries.due("that of another task", x.occupiedBy(5), 5);
        x.step(4, 1);
        Tries.due("back, the inner part ended", Tries.outcome(() -> x.occupiedBy(4)) + " " + x.occupiedBy(6), "NoSuchElementException 4");
        x.step(4, 1);
        Tries.dueThrow("the outer part ended", Tries.MISSING, () -> x.occupiedBy(6));
    }

    // ---- promise 34

    @Says(promise = 34, words = {"Returns how many exclusive accesses go on.", "Returns the number of accesses."})
    static void promise34Accesses() {
        ArcKeeper x = Worlds.world("m 1 1; e 0 0; e 1 0; e 1 3; z; j; j; j; z", "k 1 2 0; z", "e 0 0; z; r 0; j",
                "y 1; e 0 0; k 1 4 0; j; o; z; j", "m 1 1; e 1 0; h 1; j");
        x.begin(0, 0, false);
        x.step(0, 1);
        int[] counts = {1, 2, 3, 3, 2, 1, 0};
        for (int count : counts) {
            x.step(0, 1);
            Tries.due("parts within parts", x.accesses(), count);
        }
        x.begin(1, 0, false);
        x.step(1, 3);
        Tries.due("in a call", x.accesses(), 1);
        x.step(1, 1);
        Tries.due("behind its return", x.accesses() + " " + x.depth(1), "0 1");
        x.begin(3, 0, false);
        x.step(2, 5);
        Tries.due("in two functions", x.accesses() + " " + x.depth(2), "2 2");
        x.step(2, 1);
        Tries.due("behind the error", x.accesses() + " " + x.depth(2) + " " + x.at(2), "0 1 5");
        ArcKeeper y = Worlds.world("e 0 0; z; j");
        for (int i = 0; i < 6; i++) {
            y.begin(0, 0, false);
            y.step(i, 1);
            Tries.due("of several tasks", y.accesses(), i + 1);
        }
        y.step(3, 2);
        Tries.due("one has ended", y.accesses(), 5);
    }

    // ---- promises 35 to 38

    @Says(promise = 35, words = {"Returns how many numbers were printed.", "Returns the number."})
    static void promise35Prints() {
        ArcKeeper x = Worlds.world("p 0; n 1 1; l 3; p 1; j; d; p 1; j; - 2");
        Tries.due("none", x.prints(), 0);
        x.begin(0, 0, false);
        x.begin(0, -1, true);
        int[] counts = {1, 1, 1, 2, 2, 3, 3, 4, 4, 4, 5};
        for (int count : counts) {
            x.step(0, 1);
            Tries.due("prints", x.prints(), count);
        }
        x.step(1, 1);
        Tries.due("of another task", x.prints(), 6);
    }

    @Says(promise = 36, words = {"Returns what was printed.", "`index`: the index, from 0",
        "Throws `IndexOutOfBoundsException` if there is no such index"})
    static void promise36Index() {
        Tries.dueThrow("none", Tries.INDEX, () -> Worlds.world().printAt(0));
        ArcKeeper x = Worlds.world("n 1 5; p 1; n 1 6; p 1; n 1 7; p 1");
        x.begin(0, -1, false);
        x.step(0, 1);
        Tries.dueThrow("none yet", Tries.INDEX, () -> x.printAt(0));
        x.step(0, 1);
        Tries.dueRange("index of one", 0, 0, n -> 5, Tries.INDEX, x::printAt);
        x.step(0, 10);
        Tries.dueRange("index of three", 0, 2, n -> 5 + n, Tries.INDEX, x::printAt);
    }

    @Says(promise = 36, words = "Returns the number, 10000 plus the kind for an object, or -10000 for none.")
    static void promise36Values() {
        Tries.due("values", Worlds.prints(1, "p 0; p 1; n 1 -999; p 1; n 1 999; p 1; n 1 0; p 1; m 2 2; p 2; m 2 0; p 2"),
                "10001 -10000 -999 999 0 10002 10000");
        ArcKeeper x = new ArcKeeper();
        for (int i = 0; i < 8; i++) {
            x.addKind(-1, false);
        }
        Tries.function(x, false, "m 1 7; p 1; - 1; p 1");
        x.begin(0, -1, false);
        x.step(0, 10);
        Tries.due("the kind, also when it has died", Tries.printed(x), "10007 -10000");
    }

    @Says(promise = 37, words = {"Returns how many codes of deaths were noted.", "Returns the number of codes."})
    static void promise37Deaths() {
        ArcKeeper x = Worlds.world("m 1 2; - 1; m 1 1; - 1; m 1 0; n 1 1; z");
        Tries.due("none", x.deaths(), 0);
        x.begin(0, -1, false);
        int[] counts = {0, 1, 1, 3, 3, 4, 4};
        for (int count : counts) {
            x.step(0, 1);
            Tries.due("a code of the kind and of each above", x.deaths(), count);
        }
    }

    @Says(promise = 38, words = {"Returns a code of a death, in the order in which they were noted.",
        "`index`: the index, from 0", "Returns the code.",
        "Throws `IndexOutOfBoundsException` if there is no such index"})
    static void promise38Index() {
        Tries.dueThrow("none", Tries.INDEX, () -> Worlds.world().deathAt(0));
        ArcKeeper x = Worlds.world("m 1 2; - 1; m 1 1; - 1");
        x.begin(0, -1, false);
        x.step(0, 1);
        Tries.dueThrow("none yet", Tries.INDEX, () -> x.deathAt(0));
        x.step(0, 1);
        Tries.dueRange("index of one", 0, 0, n -> 12, Tries.INDEX, x::deathAt);
        x.step(0, 10);
        Tries.dueRange("index of three", 0, 2, n -> n == 0 ? 12 : 12 - n, Tries.INDEX, x::deathAt);
    }

    // ---- promises 39 and 40

    /** What each line of a function does to the numbers of counts that increased and decreased. */
    private static String tally(boolean isThrifty, int kind, String... functions) {
        ArcKeeper x = Worlds.world(functions);
        x.begin(0, kind, isThrifty);
        StringBuilder tally = new StringBuilder();
        for (int step = 0; step < 50 && x.state(0) == 'r'; step++) {
            long kept = x.kept();
            long givenUp = x.givenUp();
            x.step(0, 1);
            tally.append(step == 0 ? "" : " ").append(x.kept() - kept).append('/').append(x.givenUp() - givenUp);
        }
        Tries.due("43 sound", x.isSound(), true);
        return tally.toString();
    }

    @Says(promise = 39, words = {"Returns how often counts increased, that of making objects left out.",
        "Returns the number of times."})
    static void promise39Kept() {
        Tries.due("none", Worlds.world().kept(), 0L);
        Tries.due("making", tally(false, 0, "m 1 0; m 2 0; r 3"), "0/0 0/0 0/3");
        Tries.due("c", tally(false, 0, "c 1 0; c 2 1; z; z"), "1/0 1/0 0/0 0/0 0/3");
        Tries.due("c of no object", tally(false, -1, "c 1 0; n 2 1; c 1 2; z; z"), "0/0 0/0 0/0 0/0 0/0 0/0");
        Tries.due("f of a strong field", tally(false, 0, "m 1 2; f 0 0 1; z; z"), "0/0 1/0 0/0 0/0 0/3");
        Tries.due("f of the others", tally(false, 1, "m 1 2; f 0 1 1; f 0 2 1; z; z"), "0/0 0/0 0/0 0/0 0/0 0/2");
        Tries.due("g", tally(false, 1, "m 1 2; f 0 0 1; f 0 1 1; f 0 2 1; g 2 0 0; g 3 0 1; g 4 0 2; z; z"),
                "0/0 1/0 0/0 0/0 1/0 1/0 1/0 0/0 0/0 0/6");
        Tries.due("g of none", tally(false, 1, "g 2 0 0; g 3 0 1; g 4 0 2; z; z"), "0/0 0/0 0/0 0/0 0/0 0/1");
        Tries.due("p and ? and e and v", tally(false, 0, "p 0; ? 0; j; e 0 0; j; v 0; j; z"),
                "0/0 0/0 0/0 0/0 0/0 0/0 0/0 0/0 0/1");
        Tries.due("a call that owns", tally(false, 0, "k 1 1 0; z; z", "owned z; z"), "1/0 0/0 0/0 0/1 0/0 0/0 0/1");
        Tries.due("a call that does not", tally(false, 0, "k 1 1 0; z; z", "z; z"), "0/0 0/0 0/0 0/0 0/0 0/0 0/1");
        Tries.due("a call with no object", tally(false, -1, "k 1 1 0; z; z", "owned z"), "0/0 0/0 0/0 0/0 0/0 0/0");
        Tries.due("what is returned, once", tally(false, 0, "k 1 1 0; z; z", "z; r 0"), "0/0 0/0 1/0 0/0 0/0 0/2");
        Tries.due("the result", tally(false, 0, "z; r 0"), "0/0 1/1");
        Tries.due("an error", tally(false, 0, "m 1 0; y 1; h 1; o; j; z"), "0/0 0/0 0/1 0/0 0/0 0/1");
    }

    @Says(promise = 40, words = {"Returns how often counts decreased.", "Returns the number of times."})
    static void promise40GivenUp() {
        Tries.due("none", Worlds.world().givenUp(), 0L);
        for (String line : new String[] {"m 1 2", "n 1 1", "- 1", "c 1 3", "g 1 2 0"}) {
            Tries.due("set anew by " + line, tally(false, 0, "m 1 2; m 2 0; " + line + "; z; z").split(" ")[2], "0/1");
        }
        Tries.due("set anew by a sum", tally(false, 0, "m 1 2; n 2 1; + 1 2 2; z"), "0/0 0/0 0/1 0/0 0/1");
        Tries.due("set to itself", tally(false, 0, "m 1 2; c 1 1; z; z"), "0/0 1/1 0/0 0/0 0/2");
        Tries.due("a field set to the same", tally(false, 0, "m 1 2; f 0 0 1; f 0 0 1; f 0 0 2; z; z"),
                "0/0 1/0 1/1 0/1 0/0 0/0 0/2");
        Tries.due("a parameter that is not owned", tally(false, 0, "k 1 1 0; z; z", "n 0 1; z; z"),
                "0/0 0/0 0/0 0/0 0/0 0/0 0/0 0/1");
        Tries.due("a parameter that is owned", tally(false, 0, "k 1 1 0; z; z", "owned n 0 1; z; z"),
                "1/0 0/1 0/0 0/0 0/0 0/0 0/0 0/1");
        Tries.due("those that die with it", tally(false, 0, "m 1 0; m 2 0; f 2 0 1; f 1 0 0; - 1; - 2; z; z"),
                "0/0 0/0 1/0 1/0 0/1 0/3 0/0 0/0 0/1");
        Tries.due("a weak field gives up nothing", tally(false, 1, "m 1 2; f 0 1 1; f 0 2 1; - 1; z; z"),
                "0/0 0/0 0/0 0/1 0/0 0/0 0/1");
        Tries.due("as the thrifty way begins", tally(true, 0, "owned n 1 1"), "0/0");
        ArcKeeper x = Worlds.world("owned n 1 1");
        x.begin(0, 0, true);
        Tries.due("that of the task", Worlds.counts(x), "0 1");
    }

    @Says(promise = 0, words = "this variable is none then, and no count changes by that.")
    static void promise39Moves() {
        Tries.due("c", tally(true, -1, "m 1 0; c 2 1; c 3 2; + 4 4 4"), "0/0 0/0 0/1 0/0");
        Tries.due("c in the plain way", tally(false, -1, "m 1 0; c 2 1; z; z"), "0/0 1/0 0/0 0/0 0/2");
        Tries.due("f", tally(true, 0, "owned z; m 1 2; f 0 0 1; r 2"), "0/0 0/0 0/2 0/0");
        Tries.due("r", tally(true, 0, "owned z; r 0"), "0/0 0/0");
        Tries.due("r of a parameter that is not owned", tally(true, 0, "z; r 0"), "0/0 1/1");
        Tries.due("r of a call", tally(true, -1, "k 1 1 0; r 1", "m 1 0; r 1"), "0/0 0/0 0/0 0/0");
        Tries.due("r with a part put off", tally(true, 0, "owned d; j; r 0"), "0/0 1/1");
        Tries.due("in place of another one", tally(true, -1, "m 1 0; m 2 0; c 1 2; r 1"), "0/0 0/0 0/1 0/0");
    }

    // ---- promise 43

    @Says(promise = 43, words = {"Returns whether all is sound: each object that is alive has a count greater than 0, "
        + "which is the number of its owners; no field that is strong holds one that is not alive; and each actor is "
        + "occupied by at most one task, which is not done, ended or trapped, or was trapped in it.",
        "Returns whether it is."})
    static void promise43IsSound() {
        Tries.due("a new one", new ArcKeeper().isSound(), true);
        Tries.due("with faults", Worlds.world("j").isSound(), true);
        String[][] languages = {
            {"m 1 0; f 1 0 0; f 0 0 1; v 1; z; e 1 0; k 2 1 1; j; j; g 3 0 0; r 3", "owned c 1 0; d; f 1 0 1; j; y 2; h 1; o; r 1; j"},
            {"owned m 1 1; f 1 1 0; f 1 2 0; f 1 3 0; - 0; f 1 3 1; g 2 1 2", "z"},
            {"v 0; v 0; k 1 1 0; j; j; z", "v 0; h 4; j"},
            {"v 0; e 0 0; k 1 1 0; j; j; z", "owned d; g 1 0 0; j; v 0; z; + 1 1 1; j"},
            {"m 1 0; c 2 1; f 2 0 1; c 3 2; l 2; g 4 3 0; j; r 4", ""},
        };
        for (String[] language : languages) {
            for (int way = 0; way < 2; way++) {
                for (int kind = 0; kind < 2; kind++) {
                    ArcKeeper x = Worlds.world(language);
                    x.begin(0, kind, way == 1);
                    x.begin(1, kind, way == 0);
                    Tries.due("as it begins " + language[0], x.isSound(), true);
                    for (int step = 0; step < 60 && x.state(0) == 'r'; step++) {
                        x.step(0, 1);
                        Tries.due("behind each step of " + language[0], x.isSound(), true);
                    }
                    Tries.due("it has ended " + language[0], x.state(0) != 'r', true);
                }
            }
        }
    }

    @Says(promise = 43, words = {"each object that is alive has a count greater than 0, which is the number of its owners;",
        "no field that is strong holds one that is not alive;"})
    static void promise43CountsThatAreNotTheOwners() {
        ArcKeeper x = Worlds.begun(1, 7, "m 1 0; m 2 0; f 0 0 1; f 0 1 2; f 0 2 2; f 0 3 2; - 2; z");
        Tries.due("as it is", x.isSound(), true);
        for (int object = 0; object < 3; object++) {
            for (int by = -1; by <= 1; by += 2) {
                int count = x.countOf(object);
                if (!Inside.set(x, "counts", object, count + by)) {
                    return;
                }
                if (count + by > 0) {
                    Tries.due("a count of " + object + " that is wrong", x.isSound(), false);
                }
                Inside.set(x, "counts", object, count);
                Tries.due("and right again", x.isSound(), true);
            }
        }
        for (int object = 1; object < 3; object++) {
            int count = x.countOf(object);
            Inside.set(x, "counts", object, 0);
            Tries.due("a strong field holds one that is not alive", x.isSound(), false);
            Inside.set(x, "counts", object, count);
        }
        ArcKeeper y = Worlds.begun(1, 4, "m 2 0; f 0 1 2; f 0 2 2; - 2; z");
        Tries.due("fields that are not strong do", y.isSound() + " " + y.isAlive(1), "true false");
    }

    @Says(promise = 43, words = {"and each actor is occupied by at most one task, which is not done, ended or trapped, "
        + "or was trapped in it."})
    static void promise43TasksThatHaveEnded() {
        ArcKeeper x = Worlds.world("n 1 1", "h 1", "v 1; j", "v 0; v 1; j; j");
        for (int task = 0; task < 4; task++) {
            x.begin(task, 0, false);
            x.step(task, task < 3 ? 1 : 2);
        }
        Tries.due("one was trapped in it", x.isSound() + " " + x.occupiedBy(3) + " " + x.state(3), "true 3 t");
        for (int task = 0; task < 3; task++) {
            if (!Inside.set(x, "occupants", task, task)) {
                return;
            }
            Tries.due("one that is " + x.state(task), x.isSound(), false);
            Inside.set(x, "occupants", task, -1);
            Tries.due("none", x.isSound(), true);
        }
    }

    @Says(promise = 36, words = {"Returns what was printed.", "`index`: the index, from 0"})
    static void promise36ManyPrints() {
        ArcKeeper x = Worlds.world("n 1 0; n 2 1; l 5; l 5; l 5; l 5; p 1; + 1 1 2; j; j; j; j");
        x.begin(0, -1, false);
        Worlds.ended(x, 0);
        Tries.due("prints", x.prints(), 625);
        Tries.dueRange("index", 0, 624, n -> n, Tries.INDEX, x::printAt);
    }

    @Says(promise = 38, words = {"Returns a code of a death, in the order in which they were noted."})
    static void promise38ManyDeaths() {
        ArcKeeper x = new ArcKeeper();
        for (int kind = 0; kind < 8; kind++) {
            x.addKind(kind - 1, false);
            x.setCode(kind, kind);
        }
        Tries.function(x, false, "l 5; l 5; l 5; m 1 7; j; j; j; l 4; l 5; m 1 7; j; j; - 1");
        x.begin(0, -1, false);
        Worlds.ended(x, 0);
        Tries.due("deaths", x.deaths(), 145 * 8);
        Tries.dueRange("index", 0, 145 * 8 - 1, n -> 7 - n % 8, Tries.INDEX, x::deathAt);
    }
}
