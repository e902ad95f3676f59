import java.util.NoSuchElementException;

/** Promises 19 to 40, 42 and 43: tasks, objects and what happened. */
public final class RunningTest {
    private static final Class<IndexOutOfBoundsException> INDEX = IndexOutOfBoundsException.class;
    private static final Class<IllegalArgumentException> ARGUMENT = IllegalArgumentException.class;
    private static final Class<IllegalStateException> STATE = IllegalStateException.class;
    private static final Class<UnsupportedOperationException> UNSUPPORTED = UnsupportedOperationException.class;
    private static final Class<NoSuchElementException> MISSING = NoSuchElementException.class;

    private RunningTest() {}

    public static void main(String[] args) {
        beginThrows();
        beginOwners();
        beginWithoutLines();
        stepThrowsAndCounts();
        sums();
        loops();
        branches();
        callsAndReturns();
        witnessCalls();
        errors();
        putOffParts();
        traps();
        trapOrder();
        callDepth();
        objectLimit();
        fieldTypes();
        deathOrder();
        longDeaths();
        exclusiveAccesses();
        actors();
        waitingAtTheEnd();
        thriftyLives();
        thriftyMoves();
        thriftyParameters();
        trapsFreeze();
        indexes();
        manyPrints();
        Tries.end("RunningTest");
    }

    private static void beginThrows() {
        ArcKeeper x = Worlds.world("z", "j");
        Tries.dueThrow("19 function", INDEX, () -> x.begin(2, -1, false));
        Tries.dueThrow("19 function below", INDEX, () -> x.begin(-1, -1, false));
        Tries.dueThrow("19 kind", INDEX, () -> x.begin(0, 3, false));
        Tries.dueThrow("19 kind below", INDEX, () -> x.begin(0, -2, false));
        Tries.dueThrow("19 another function has a fault", UNSUPPORTED, () -> x.begin(0, 0, false));
        Tries.due("19 nothing was made", x.made(), 0);
        Tries.due("19 no task was begun", x.setCode(0, 1), 10);
        ArcKeeper y = Worlds.world("");
        for (int i = 0; i < 6; i++) {
            Tries.due("19 number", y.begin(0, -1, false), i);
        }
        Tries.dueThrow("19 six", STATE, () -> y.begin(0, -1, false));
        Tries.dueThrow("19 index first", INDEX, () -> y.begin(0, 3, false));
    }

    private static void beginOwners() {
        for (boolean isOwned : new boolean[] {true, false}) {
            ArcKeeper x = Worlds.world((isOwned ? "owned " : "") + "z; z; n 0 1; z");
            x.begin(0, 1, false);
            Tries.due("19 made", x.made() + " " + x.alive() + " " + x.kindOf(0), "1 1 1");
            Tries.due("31 count", x.countOf(0), 1);
            Tries.due("32 owners", x.ownersOf(0), 1);
            x.step(0, 3);
            Tries.due("19 set anew, owned " + isOwned, x.isAlive(0), !isOwned);
            x.step(0, 2);
            Tries.due("19 at the end", x.isAlive(0), false);
            Tries.due("39 kept", x.kept(), 0L);
            Tries.due("40 given up", x.givenUp(), 1L);
        }
    }

    private static void beginWithoutLines() {
        ArcKeeper x = Worlds.world("owned", "");
        x.begin(0, 0, false);
        x.begin(1, 1, true);
        x.begin(1, -1, false);
        for (int task = 0; task < 3; task++) {
            Tries.due("19 done as it begins", Worlds.told(x, task), "d -10000");
            Tries.due("25 depth", x.depth(task), 0);
            int t = task;
            Tries.dueThrow("20 it has ended", STATE, () -> x.step(t, 1));
        }
        Tries.due("38 deaths", Tries.died(x), "10 11 10");
        Tries.due("42 no steps", x.meanSteps(), 0.0);
    }

    private static void stepThrowsAndCounts() {
        ArcKeeper x = Worlds.world("n 1 2; n 2 3; r 2", "h 9", "g 0 0 0");
        Tries.dueThrow("20 no task", INDEX, () -> x.step(0, 0));
        x.begin(0, -1, false);
        Tries.dueThrow("20 none", ARGUMENT, () -> x.step(0, 0));
        Tries.dueThrow("20 too many", ARGUMENT, () -> x.step(0, 101));
        Tries.dueThrow("20 index first", INDEX, () -> x.step(1, 0));
        Tries.due("20 one", x.step(0, 1), 1);
        Tries.due("24 at", x.at(0), 1);
        Tries.due("21 goes on", x.state(0), 'r');
        Tries.dueThrow("26 not done", MISSING, () -> x.result(0));
        Tries.dueThrow("23 no error", MISSING, () -> x.error(0));
        Tries.dueThrow("22 no trap", MISSING, () -> x.trap(0));
        Tries.due("20 the rest", x.step(0, 100), 2);
        Tries.due("26 result", x.result(0), 3);
        Tries.dueThrow("24 done", MISSING, () -> x.at(0));
        Tries.dueThrow("20 argument first", ARGUMENT, () -> x.step(0, 101));
        Tries.dueThrow("20 done", STATE, () -> x.step(0, 100));
        x.begin(1, -1, false);
        Tries.due("20 an error counts as a step", x.step(1, 100), 1);
        Tries.due("21 error", x.state(1), 'e');
        Tries.due("23 error", x.error(1), 9);
        Tries.due("25 error", x.depth(1), 0);
        Tries.dueThrow("24 error", MISSING, () -> x.at(1));
        Tries.dueThrow("26 error", MISSING, () -> x.result(1));
        Tries.dueThrow("20 error", STATE, () -> x.step(1, 1));
        x.begin(2, -1, false);
        Tries.due("20 a trap counts as a step", x.step(2, 100), 1);
        Tries.due("21 trap", x.state(2), 't');
        Tries.due("22 trap", x.trap(2), 'n');
        Tries.due("24 trap", x.at(2), 0);
        Tries.due("25 trap", x.depth(2), 1);
        Tries.dueThrow("20 trap", STATE, () -> x.step(2, 1));
        Tries.dueThrow("23 trap", MISSING, () -> x.error(2));
        Tries.due("42 mean", x.meanSteps(), 5.0 / 3.0);
        Tries.dueThrow("42 no tasks", ArithmeticException.class, () -> Worlds.world().meanSteps());
    }

    private static void sums() {
        StringBuilder text = new StringBuilder("n 1 999; n 2 -999; p 3");
        for (int i = 0; i < 4; i++) {
            text.append("; + 1 1 1; + 2 2 2");
        }
        text.append("; p 1; p 2; + 3 1 2; p 3");
        ArcKeeper x = Worlds.world(text.toString());
        x.begin(0, -1, false);
        x.step(0, 100);
        Tries.due("36 sums with their signs", Tries.printed(x), "-10000 5984 -5984 0");
        Tries.due("t none in a sum", Worlds.run(-1, false, "n 1 1; + 0 1 2"), "t t at 1 in 2");
        Tries.due("t an object in a sum", Worlds.run(0, false, "n 1 1; + 2 0 1"), "t t at 1 in 2");
        Tries.due("a sum of itself", Worlds.run(-1, false, "n 1 -3; + 1 1 1; r 1"), "d -6 in 3");
    }

    private static void loops() {
        Tries.due("l each end is a step", Worlds.run(-1, false, "n 1 1; l 3; + 1 1 1; j; r 1"), "d 8 in 9");
        Tries.due("l once", Worlds.run(-1, false, "l 1; n 1 7; j; r 1"), "d 7 in 4");
        Tries.due("l empty", Worlds.run(-1, false, "l 5; j"), "d -10000 in 6");
        Tries.due("l in a loop", Worlds.run(-1, false, "n 1 0; n 2 1; l 2; l 3; + 1 1 2; j; j; r 1"), "d 6 in 20");
        Tries.due("l left by a return", Worlds.run(-1, false, "l 5; l 5; r 0; j; j"), "d -10000 in 3");
    }

    private static void branches() {
        Tries.due("? none", Worlds.run(-1, false, "? 1; n 2 5; j; r 2"), "d -10000 in 2");
        Tries.due("? the number 0", Worlds.run(-1, false, "n 1 0; ? 1; n 2 5; j; r 2"), "d 5 in 5");
        Tries.due("? an object", Worlds.run(0, false, "? 0; n 2 5; j; r 2"), "d 5 in 4");
        Tries.due("? at the end", Worlds.run(-1, false, "? 1; j"), "d -10000 in 1");
    }

    private static void callsAndReturns() {
        ArcKeeper x = Worlds.world("m 1 1; k 2 1 1; k 3 2 1; p 2; p 3; k 3 3 1", "owned c 1 0; r 1", "p 0; n 0 4; r 0", "");
        x.begin(0, -1, false);
        x.step(0, 2);
        Tries.due("25 in a call", x.depth(0) + " at " + x.at(0), "2 at 0");
        Tries.due("31 an owned parameter", x.countOf(0) + " " + x.ownersOf(0), "2 2");
        x.step(0, 1);
        Tries.due("31 copied", x.countOf(0), 3);
        x.step(0, 1);
        Tries.due("31 returned", x.countOf(0) + " at " + x.at(0), "2 at 2");
        x.step(0, 1);
        Tries.due("31 one that is not owned", x.countOf(0) + " " + x.ownersOf(0), "2 2");
        x.step(0, 2);
        Tries.due("31 set anew", x.countOf(0), 2);
        x.step(0, 1);
        Tries.due("36 what was returned", x.at(0), 3);
        Tries.due("20 one without lines returns at once", x.step(0, 100), 3);
        Tries.due("36 printed", Tries.printed(x), "10001 10001 4");
        Tries.due("38 death", Tries.died(x), "11 10");
        Tries.due("39 kept", x.kept(), 3L);
        Tries.due("40 given up", x.givenUp(), 4L);
        Tries.due("all return in one step", Worlds.run(-1, false, "k 1 1 0", "k 1 2 0", "k 1 3 0", "z; n 1 1"), "d -10000 in 5");
        Tries.due("r of none", Worlds.run(0, false, "r 5"), "d -10000 in 1");
        Tries.due("r of an object", Worlds.run(1, false, "r 0"), "d 10001 in 1");
        ArcKeeper y = Worlds.world("r 0");
        y.begin(0, 2, false);
        y.step(0, 1);
        Tries.due("the task owns its result", y.countOf(0) + " " + y.ownersOf(0) + " " + y.alive(), "1 1 1");
        Tries.due("the variable of the call is set last", Worlds.run(0, false, "k 0 1 0; r 0", "r 0"), "d 10000 in 3");
    }

    private static void witnessCalls() {
        ArcKeeper x = Worlds.world("m 1 1; q 2 0 1; p 2; m 1 0; q 2 0 1; p 2; m 1 2; q 2 0 1", "n 1 1; r 1", "n 1 2; r 1");
        x.conform(1, 0, -1);
        x.conform(0, 0, -1);
        x.setWitness(1, 0, 1);
        x.setDefault(0, 2);
        x.begin(0, -1, false);
        Tries.due("p not met", Worlds.ended(x, 0), "t p at 7 in 12");
        Tries.due("q by the kind of the object", Tries.printed(x), "1 2");
        Tries.due("q of none", Worlds.run(-1, false, "q 1 0 2"), "t n at 0 in 1");
        Tries.due("q of a number", Worlds.run(-1, false, "n 2 1; q 1 0 2"), "t n at 1 in 2");
    }

    private static void errors() {
        Tries.due("h unhandled", Worlds.run(-1, false, "h 5; p 1"), "e 5 in 1");
        Tries.due("h handled", Worlds.run(-1, false, "y 2; h 5; o; j; r 2"), "d 5 in 4");
        Tries.due("no error", Worlds.run(-1, false, "n 2 8; y 2; o; n 2 1; j; r 2"), "d 8 in 4");
        Tries.due("h in a handler", Worlds.run(-1, false, "y 2; y 3; h 5; o; h 6; j; o; r 2; j"), "d 6 in 5");
        Tries.due("the innermost one", Worlds.run(-1, false, "y 2; y 3; h 5; o; r 3; j; o; n 4 1; r 4; j"), "d 5 in 4");
        Tries.due("through calls", Worlds.run(-1, false, "y 2; k 1 1 0; o; r 2; j", "k 1 2 0; n 0 1", "h 4"), "d 4 in 5");
        Tries.due("not handled behind", Worlds.run(-1, false, "k 1 1 0; y 2; o; j", "y 1; o; j; h 3"), "e 3 in 4");
        Tries.due("in a loop", Worlds.run(-1, false, "n 3 0; n 4 1; l 3; y 2; h 5; o; + 3 3 4; j; j; r 3"), "d 3 in 19");
        ArcKeeper x = Worlds.world("m 1 1; m 2 0; y 2; l 2; v 1; e 1 0; k 3 1 1; j; j; j; o; p 2; j; z", "owned m 2 2; n 4 1; h 8");
        x.begin(0, -1, false);
        x.step(0, 9);
        Tries.due("ahead of the error", x.accesses() + " " + x.occupiedBy(0) + " " + x.alive() + " " + x.depth(0), "1 0 3 2");
        x.step(0, 1);
        Tries.due("34 the access ended", x.accesses(), 0);
        Tries.dueThrow("33 the actor was left", MISSING, () -> x.occupiedBy(0));
        Tries.due("25 back in the first one", x.depth(0) + " at " + x.at(0), "1 at 11");
        Tries.due("38 the variables of the call, then the old value", Tries.died(x), "12 10");
        Tries.due("31 owners", x.countOf(0) + " " + x.ownersOf(0), "1 1");
        Tries.due("20 the end", Worlds.ended(x, 0), "d -10000 in 4");
        Tries.due("36 the error", Tries.printed(x), "8");
    }

    private static void putOffParts() {
        ArcKeeper x = Worlds.world("n 1 1; d; p 1; j; d; + 1 1 1; p 1; j; n 1 5; p 1");
        x.begin(0, -1, false);
        Tries.due("d all in the last step", Worlds.ended(x, 0), "d -10000 in 5");
        Tries.due("d the latest one first", Tries.printed(x), "5 10 10");
        ArcKeeper y = Worlds.world("n 1 0; n 2 1; l 3; + 1 1 2; ? 2; d; p 1; + 1 1 2; j; j; j; k 3 1 1; h 2", "p 0; d; j; d; p 0; j; p 0");
        y.begin(0, -1, false);
        Tries.due("d by an error", Worlds.ended(y, 0), "e 2 in 24");
        Tries.due("d as often as it was done", Tries.printed(y), "3 3 3 3 4 5");
        ArcKeeper z = Worlds.world("m 1 1; d; p 1; - 1; j; r 1");
        z.begin(0, -1, false);
        Tries.due("r is taken ahead", Worlds.ended(z, 0), "d 10001 in 3");
        Tries.due("31 result", z.countOf(0) + " " + z.ownersOf(0) + " " + z.kept() + " " + z.givenUp(), "1 1 1 1");
        ArcKeeper w = Worlds.world("m 1 0; e 1 0; d; g 2 1 1; j; d; f 0 0 1; j; r 1; j");
        w.begin(0, 0, false);
        Tries.due("f in a part put off", Worlds.ended(w, 0), "t f at 3 in 5");
        Tries.due("the accesses ended ahead", w.accesses(), 0);
        Tries.due("its task goes on to own", w.alive() + " " + w.isSound() + " " + w.depth(0), "2 true 1");
        Tries.due("the value that is returned is owned", w.countOf(1) + " " + w.ownersOf(1), "3 3");
        ArcKeeper v = Worlds.world("y 2; k 1 1 0; o; j", "k 1 2 0", "d; + 1 1 1; j; h 3");
        v.begin(0, -1, false);
        Tries.due("t while an error leaves", Worlds.ended(v, 0), "t t at 1 in 5");
        Tries.due("25 it is still in it", v.depth(0), 3);
    }

    private static void traps() {
        String[] needObject = {"g 1 2 0", "f 2 0 0", "q 1 0 2", "e 2 0", "v 2"};
        for (String line : needObject) {
            String end = line.charAt(0) == 'e' || line.charAt(0) == 'v' ? "; j" : "";
            Tries.due("n none " + line, Worlds.run(0, false, "z; " + line + end), "t n at 1 in 2");
            Tries.due("n number " + line, Worlds.run(0, false, "n 2 0; " + line + end), "t n at 1 in 2");
        }
        Tries.due("f read", Worlds.run(0, false, "g 1 0 1"), "t f at 0 in 1");
        Tries.due("f set", Worlds.run(0, false, "f 0 3 1"), "t f at 0 in 1");
        Tries.due("f accessed", Worlds.run(2, false, "e 0 0; j"), "t f at 0 in 1");
        Tries.due("f of the parent is fine", Worlds.run(1, false, "g 1 0 0"), "d -10000 in 1");
        Tries.due("t no actor", Worlds.run(2, false, "v 0; j"), "t t at 0 in 1");
        Tries.due("t an actor by its parent", Worlds.run(1, false, "v 0; j"), "d -10000 in 2");
        Tries.due("t number in a weak field", Worlds.run(1, false, "n 1 1; f 0 1 1"), "t t at 1 in 2");
        Tries.due("t number in an unowned field", Worlds.run(1, false, "n 1 1; f 0 2 1"), "t t at 1 in 2");
        Tries.due("t none is fine there", Worlds.run(1, false, "f 0 1 1; f 0 2 1; g 3 0 2; r 3"), "d -10000 in 4");
        Tries.due("t number in a strong field", Worlds.run(1, false, "n 1 -7; f 0 3 1; g 2 0 3; r 2"), "d -7 in 4");
        Tries.due("p prints all", Worlds.run(0, false, "p 0; p 1; n 1 3; p 1"), "d -10000 in 4");
    }

    private static void trapOrder() {
        Tries.due("f ahead of t", Worlds.run(0, false, "n 1 1; f 0 1 1"), "t f at 1 in 2");
        Tries.due("x ahead of t", Worlds.run(1, false, "n 1 1; c 2 0; e 0 1; f 2 1 1; j"), "t x at 3 in 4");
        Tries.due("u ahead of x", Worlds.run(1, false, "m 1 2; f 0 2 1; - 1; c 2 0; e 0 2; g 3 2 2; j"), "t u at 5 in 6");
        Tries.due("n ahead of f", Worlds.run(1, false, "n 1 1; g 2 1 1"), "t n at 1 in 2");
    }

    private static void callDepth() {
        ArcKeeper x = Worlds.world("k 1 0 0");
        x.begin(0, 0, false);
        Tries.due("d the ninth call", Worlds.ended(x, 0), "t d at 0 in 9");
        Tries.due("25 the first one and eight", x.depth(0), 9);
        Tries.due("31 a parameter that is not owned", x.countOf(0) + " " + x.ownersOf(0), "1 1");
        ArcKeeper y = Worlds.world("owned k 1 0 0");
        y.begin(0, 0, true);
        y.step(0, 100);
        Tries.due("31 an owned one", y.countOf(0) + " " + y.ownersOf(0) + " " + y.isSound(), "9 9 true");
        ArcKeeper z = Worlds.world("q 1 0 0");
        z.conform(2, 0, -1);
        z.setDefault(0, 0);
        z.begin(0, 2, false);
        Tries.due("d by a requirement", Worlds.ended(z, 0), "t d at 0 in 9");
        ArcKeeper w = Worlds.world("n 1 1; k 2 1 1; r 2", "k 1 2 0", "k 1 3 0", "k 1 4 0", "k 1 5 0", "k 1 6 0", "k 1 7 0", "p 0; r 0");
        w.begin(0, -1, false);
        Tries.due("eight are fine", Worlds.ended(w, 0), "d -10000 in 11");
    }

    private static void objectLimit() {
        ArcKeeper x = Worlds.world("l 5; l 5; l 5; m 1 2; j; j; j; n 1 0; l 5; l 5; m 2 2; j; j; m 3 2");
        x.begin(0, -1, false);
        Tries.due("m the one behind 150", Worlds.ended(x, 0).substring(0, 9), "t m at 13");
        Tries.due("27 made", x.made(), 150);
        Tries.due("28 alive", x.alive(), 1);
        Tries.due("37 deaths", x.deaths(), 149);
        Tries.dueThrow("19 no object more", STATE, () -> x.begin(0, 0, false));
        Tries.due("19 without one", x.begin(0, -1, false), 1);
        Tries.dueThrow("29 behind the last", INDEX, () -> x.isAlive(150));
    }

    private static void fieldTypes() {
        ArcKeeper x = Worlds.world("m 1 2; f 0 1 1; f 0 2 1; f 0 3 1; - 1; g 2 0 1; p 2; g 2 0 2; p 2; - 2; n 3 1; f 0 3 3; g 4 0 1; p 4; g 4 0 2");
        x.begin(0, 1, false);
        x.step(0, 3);
        Tries.due("31 weak and unowned ones own nothing", x.countOf(1), 1);
        Tries.due("u read of what is not alive", Worlds.ended(x, 0), "t u at 14 in 12");
        Tries.due("w none then", Tries.printed(x), "10002 10002 -10000");
        Tries.due("38 died of the strong one", Tries.died(x), "12");
        ArcKeeper y = Worlds.world("m 1 2; f 0 3 1; f 0 3 1; c 1 1; f 0 3 2");
        y.begin(0, 1, false);
        y.step(0, 4);
        Tries.due("39 set again to the same", y.kept() + " " + y.givenUp() + " " + y.countOf(1), "3 2 2");
        y.step(0, 1);
        Tries.due("43 the end", y.alive() + " " + y.isSound(), "0 true");
    }

    private static void deathOrder() {
        ArcKeeper x = new ArcKeeper();
        for (int kind = 0; kind < 6; kind++) {
            x.addKind(kind == 1 ? 0 : -1, false);
            x.setCode(kind, kind);
        }
        int upper = x.addField(0, 's');
        int lower = x.addField(1, 's');
        int weak = x.addField(1, 'w');
        int upper2 = x.addField(0, 's');
        int lower2 = x.addField(1, 's');
        int chain = x.addField(4, 's');
        Tries.function(x, false, "m 0 1; m 1 2; f 0 " + upper + " 1; m 1 3; f 0 " + upper2 + " 1; m 1 4; m 2 5; f 1 " + chain
                + " 2; f 0 " + lower + " 1; f 0 " + weak + " 2; m 2 5; f 0 " + lower2 + " 2; - 1; - 2; - 0");
        x.begin(0, -1, false);
        x.step(0, 14);
        Tries.due("38 nothing yet", x.deaths(), 0);
        x.step(0, 1);
        Tries.due("38 codes upwards, then fields, each at once", Tries.died(x), "1 0 4 5 5 2 3");
        Tries.due("28 none", x.alive(), 0);
        ArcKeeper y = Worlds.world("m 0 2; m 1 1; m 2 0; m 3 0; m 4 1; m 5 2");
        y.begin(0, -1, false);
        y.step(0, 100);
        Tries.due("38 variables by falling numbers", Tries.died(y), "12 11 10 10 10 11 10 12");
    }

    private static void longDeaths() {
        ArcKeeper x = Worlds.world("l 5; l 5; l 5; m 1 0; f 1 0 2; c 2 1; j; j; j; l 4; l 5; m 1 0; f 1 0 2; c 2 1; j; j; - 1");
        x.begin(0, -1, false);
        while (x.at(0) < 16) {
            x.step(0, 1);
        }
        Tries.due("a chain", x.alive() + " " + x.kept(), "145 289");
        x.step(0, 1);
        Tries.due("37 it dies at once", x.deaths() + " " + x.alive() + " " + x.state(0), "145 0 d");
        Tries.due("40 each count", x.givenUp(), 145L + 289L);
        ArcKeeper y = Worlds.world("m 1 0; f 1 0 1; m 2 0; m 3 0; f 2 0 3; f 3 0 2");
        y.begin(0, -1, false);
        y.step(0, 100);
        Tries.due("what owns itself lives on", y.alive() + " " + y.countOf(0) + y.countOf(1) + y.ownersOf(2) + " " + y.isSound(), "3 111 true");
    }

    private static void exclusiveAccesses() {
        String other = "m 1 0; f 0 0 1; c 2 0; e 0 0; ";
        Tries.due("x read", Worlds.run(0, false, other + "g 3 2 0; j"), "t x at 4 in 5");
        Tries.due("x set", Worlds.run(0, false, other + "f 2 0 3; j"), "t x at 4 in 5");
        Tries.due("x accessed", Worlds.run(0, false, other + "e 2 0; j; j"), "t x at 4 in 5");
        Tries.due("x in a call", Worlds.run(0, false, "e 0 0; k 1 1 0; j", "g 1 0 0"), "t x at 0 in 3");
        Tries.due("x ended by a return", Worlds.run(0, false, "k 1 1 0; g 1 0 0", "e 0 0; r 0; j"), "d -10000 in 4");
        ArcKeeper x = Worlds.world("m 1 1; f 0 0 1; e 1 3; e 1 0; z; j; j", "g 1 0 0; g 2 1 3");
        x.begin(0, 0, false);
        x.step(0, 4);
        Tries.due("34 two", x.accesses(), 2);
        ArcKeeper y = Worlds.world("e 0 0; - 0; z; j; z", "g 1 0 0");
        y.begin(0, 0, false);
        y.step(0, 2);
        Tries.due("34 the object is in use by the task", y.accesses() + " " + y.alive(), "1 1");
        y.step(0, 2);
        Tries.due("34 the part ended", y.accesses(), 0);
        ArcKeeper z = Worlds.world("owned e 0 0; - 0; z; j; z");
        z.begin(0, 0, false);
        z.step(0, 2);
        Tries.due("34 the object died", z.accesses() + " " + z.alive(), "1 0");
        z.step(0, 2);
        Tries.due("34 it ends all the same", z.accesses(), 0);
        ArcKeeper w = Worlds.world("m 1 0; e 1 0; k 2 1 1; j", "c 1 0; g 2 1 1");
        w.begin(0, -1, false);
        Tries.due("f", Worlds.ended(w, 0), "t f at 1 in 5");
        Tries.due("34 a task that is trapped goes on with it", w.accesses(), 1);
    }

    /**
     * No task can reach an object of another one (parameters are made anew, and fields hold what the task
     * itself put there), so that none ever waits for another: what can be seen is entering and leaving.
     */
    private static void actors() {
        ArcKeeper x = Worlds.world("v 0; v 0; k 1 1 0; j; z; j; z; z", "v 0; j");
        x.begin(0, 1, false);
        Tries.dueThrow("33 none yet", MISSING, () -> x.occupiedBy(0));
        x.step(0, 5);
        Tries.due("33 the innermost part ended", x.occupiedBy(0), 0);
        x.step(0, 1);
        Tries.due("33 so did the next one", x.occupiedBy(0), 0);
        x.step(0, 1);
        Tries.dueThrow("33 left by a z", MISSING, () -> x.occupiedBy(0));
        Tries.due("21 not waiting", Worlds.told(x, 0), "r at 5");
        x.step(0, 1);
        Tries.dueThrow("33 entered again, and the outer part ended", MISSING, () -> x.occupiedBy(0));
        Tries.due("24 at", x.at(0), 6);
        Tries.dueThrow("33 index", INDEX, () -> x.occupiedBy(1));
        ArcKeeper y = Worlds.world("", "v 0; m 1 0; v 1; z; - 1; h 1; j; j");
        y.begin(0, -1, false);
        y.begin(1, 1, false);
        y.step(1, 3);
        Tries.due("33 two actors, the number of the task", y.occupiedBy(0) + " " + y.occupiedBy(1), "1 1");
        y.step(1, 1);
        Tries.dueThrow("33 all are left", MISSING, () -> y.occupiedBy(0));
        Tries.dueThrow("33 all are left", MISSING, () -> y.occupiedBy(1));
        y.step(1, 1);
        Tries.due("33 the actor died", y.isAlive(1) + " " + y.occupiedBy(1) + " " + y.isSound(), "false 1 true");
        y.step(1, 1);
        Tries.dueThrow("33 left by an error", MISSING, () -> y.occupiedBy(0));
        Tries.dueThrow("33 left by an error", MISSING, () -> y.occupiedBy(1));
        ArcKeeper w = Worlds.world("v 0; v 1; j; j");
        w.begin(0, 0, false);
        Tries.due("t", Worlds.ended(w, 0), "t n at 1 in 2");
        Tries.due("33 trapped in it", w.occupiedBy(0) + " " + w.isSound(), "0 true");
        ArcKeeper v = Worlds.world("v 0; k 1 1 0; g 1 0 0; j", "z; - 0");
        v.begin(0, 0, false);
        v.step(0, 3);
        Tries.dueThrow("33 a z in a call leaves all", MISSING, () -> v.occupiedBy(0));
        v.step(0, 1);
        Tries.due("33 in it again", v.occupiedBy(0) + " " + Worlds.told(v, 0), "0 r at 2");
    }

    private static void waitingAtTheEnd() {
        Tries.due("z the return is in the next step", Worlds.run(-1, false, "z"), "d -10000 in 2");
        Tries.due("z behind parts", Worlds.run(0, false, "v 0; v 0; j; j; z"), "d -10000 in 6");
        Tries.due("z in a call", Worlds.run(-1, false, "k 1 1 0", "k 1 2 0", "z"), "d -10000 in 4");
        ArcKeeper x = Worlds.world("n 1 1; k 1 1 1; p 1", "z");
        x.begin(0, -1, false);
        x.step(0, 3);
        Tries.due("24 behind the last line", x.at(0) + " " + x.depth(0), "1 2");
        x.step(0, 1);
        Tries.due("24 returned, no line more", x.at(0) + " " + x.depth(0) + " " + x.prints(), "2 1 0");
        Tries.due("36 none returned", Worlds.ended(x, 0) + " " + Tries.printed(x), "d -10000 in 1 -10000");
    }

    private static void thriftyLives() {
        ArcKeeper x = Worlds.world("m 1 1; m 2 0; n 3 1; c 4 1; n 5 1; z");
        x.begin(0, -1, true);
        x.step(0, 5);
        Tries.due("a barrier behind keeps all", x.alive(), 2);
        x.step(0, 1);
        Tries.due("38 behind it, by rising numbers", Tries.died(x) + " at " + x.at(0), "10 11 10 at 6");
        ArcKeeper y = Worlds.world("m 1 0; m 2 1; n 3 1; f 2 3 1; n 3 2; + 3 3 3");
        y.begin(0, -1, true);
        y.step(0, 3);
        Tries.due("28 both", y.alive(), 2);
        y.step(0, 1);
        Tries.due("38 behind the last use", Tries.died(y), "11 10 10");
        ArcKeeper z = Worlds.world("m 1 0; l 2; ? 1; n 2 1; j; j; n 3 1");
        z.begin(0, -1, true);
        z.step(0, 9);
        Tries.due("the loop goes on", z.alive() + " at " + z.at(0), "1 at 5");
        z.step(0, 1);
        Tries.due("behind the part", z.alive() + " at " + z.at(0), "0 at 6");
        ArcKeeper w = Worlds.world("m 1 0; ? 2; c 3 1; j; n 4 1");
        w.begin(0, -1, true);
        w.step(0, 2);
        Tries.due("behind a part that is not done", w.alive() + " at " + w.at(0), "0 at 4");
        ArcKeeper v = Worlds.world("m 1 0; m 2 0; ? 2; r 2; j; n 1 2", "m 1 0; d; - 1; j; n 2 1; z");
        v.begin(0, -1, true);
        v.step(0, 3);
        Tries.due("38 within a part", v.alive(), 2);
        v.step(0, 1);
        Tries.due("a part that is left by a return", v.alive() + " " + v.kept(), "1 1");
        v.begin(1, -1, true);
        v.step(1, 4);
        Tries.due("what is put off uses it", v.alive() + " " + Worlds.told(v, 1), "2 r at 6");
        v.step(1, 1);
        Tries.due("until the end", v.alive() + " " + Worlds.told(v, 1), "1 d -10000");
    }

    private static void thriftyMoves() {
        String text = "m 1 1; c 2 1; m 3 0; f 2 0 3; r 2";
        ArcKeeper x = Worlds.world(text);
        x.begin(0, -1, true);
        x.step(0, 2);
        Tries.due("c moves", x.countOf(0) + " " + x.ownersOf(0) + " " + x.kept() + " " + x.givenUp(), "1 1 0 0");
        x.step(0, 2);
        Tries.due("f moves", x.countOf(1) + " " + x.ownersOf(1) + " " + x.kept() + " " + x.givenUp(), "1 1 0 0");
        x.step(0, 1);
        Tries.due("r moves", Worlds.told(x, 0) + " " + x.kept() + " " + x.givenUp() + " " + x.alive(), "d 10001 0 0 2");
        ArcKeeper y = Worlds.world(text);
        y.begin(0, -1, false);
        y.step(0, 100);
        Tries.due("plain rules do not", Worlds.told(y, 0) + " " + y.kept() + " " + y.givenUp() + " " + y.alive(), "d 10001 3 3 2");
        ArcKeeper z = Worlds.world("m 1 0; m 2 1; c 2 1; n 3 1; z");
        z.begin(0, -1, true);
        z.step(0, 3);
        Tries.due("the value before is given up, and no move ahead of a barrier", Tries.died(z) + " " + z.kept(), "11 10 1");
        ArcKeeper w = Worlds.world("m 1 0; m 2 1; c 2 1; n 3 1");
        w.begin(0, -1, true);
        w.step(0, 2);
        Tries.due("not needed behind its line", w.alive(), 2);
        w.step(0, 1);
        Tries.due("what it was moved to is not needed", Tries.died(w) + " " + w.kept() + " " + w.givenUp(), "11 10 10 0 2");
    }

    private static void thriftyParameters() {
        ArcKeeper x = Worlds.world("owned n 1 1");
        x.begin(0, 0, true);
        Tries.due("given up as it begins", x.alive() + " " + Worlds.told(x, 0), "0 r at 0");
        ArcKeeper y = Worlds.world("n 1 1; n 2 2");
        y.begin(0, 0, true);
        Tries.due("one that is not owned", y.alive() + " " + y.givenUp(), "1 0");
        y.step(0, 2);
        Tries.due("until the function was left", y.alive() + " " + y.givenUp(), "0 1");
        ArcKeeper z = Worlds.world("m 1 0; k 2 1 1; n 3 1", "owned n 1 1");
        z.begin(0, -1, true);
        z.step(0, 2);
        Tries.due("a call gives it as kept", z.kept() + " " + z.givenUp() + " " + z.depth(0), "1 1 2");
        z.step(0, 1);
        Tries.due("the call is a barrier", z.alive() + " " + Worlds.told(z, 0), "0 r at 2");
        ArcKeeper w = Worlds.world("c 1 0; c 2 1; r 2");
        w.begin(0, 0, true);
        w.step(0, 1);
        Tries.due("no move of one that is not owned", w.kept() + " " + w.countOf(0) + " " + w.ownersOf(0), "1 2 2");
        w.step(0, 2);
        Tries.due("then moved on", w.kept() + " " + w.givenUp() + " " + w.countOf(0), "1 1 1");
    }

    private static void trapsFreeze() {
        ArcKeeper x = Worlds.world("m 1 0; d; p 1; j; v 1; k 2 1 1; j", "owned e 0 0; m 2 2; g 3 4 0; j");
        x.begin(0, -1, false);
        Tries.due("t", Worlds.ended(x, 0), "t n at 2 in 7");
        Tries.due("it ends with all that it owns", x.alive() + " " + x.countOf(0) + " " + x.ownersOf(0), "2 2 2");
        Tries.due("and has entered", x.occupiedBy(0) + " " + x.accesses() + " " + x.depth(0), "0 1 2");
        Tries.due("43 sound", x.isSound(), true);
        Tries.due("what was put off is not done", x.prints(), 0);
        ArcKeeper y = Worlds.world("m 1 0; f 1 3 0; - 1");
        y.begin(0, -1, false);
        y.step(0, 100);
        Tries.due("a line that is trapped has done nothing", y.countOf(0) + " " + y.kept(), "1 0");
    }

    private static void indexes() {
        ArcKeeper x = Worlds.world("p 0; m 1 0; - 1");
        x.begin(0, -1, false);
        x.step(0, 100);
        for (int odd : new int[] {-1, 1, Integer.MAX_VALUE, Integer.MIN_VALUE}) {
            Tries.dueThrow("21 state", INDEX, () -> x.state(odd));
            Tries.dueThrow("22 trap", INDEX, () -> x.trap(odd));
            Tries.dueThrow("23 error", INDEX, () -> x.error(odd));
            Tries.dueThrow("24 at", INDEX, () -> x.at(odd));
            Tries.dueThrow("25 depth", INDEX, () -> x.depth(odd));
            Tries.dueThrow("26 result", INDEX, () -> x.result(odd));
            Tries.dueThrow("20 step", INDEX, () -> x.step(odd, 1));
            Tries.dueThrow("29 isAlive", INDEX, () -> x.isAlive(odd));
            Tries.dueThrow("30 kindOf", INDEX, () -> x.kindOf(odd));
            Tries.dueThrow("31 countOf", INDEX, () -> x.countOf(odd));
            Tries.dueThrow("32 ownersOf", INDEX, () -> x.ownersOf(odd));
            Tries.dueThrow("33 occupiedBy", INDEX, () -> x.occupiedBy(odd));
            Tries.dueThrow("36 printAt", INDEX, () -> x.printAt(odd));
            Tries.dueThrow("38 deathAt", INDEX, () -> x.deathAt(odd));
        }
        Tries.due("30 kind of a dead one", x.kindOf(0) + " " + x.countOf(0) + " " + x.ownersOf(0) + " " + x.isAlive(0), "0 0 0 false");
    }

    /** The most that one function can put off: it is all done in one step. */
    private static void manyPrints() {
        ArcKeeper x = Worlds.world("l 5; l 5; l 5; l 5; l 5; l 5; d; p 1; p 1; p 1; p 1; p 1; p 1; p 1; p 1; p 1; p 1; j; j; j; j; j; j; j");
        x.begin(0, -1, false);
        int calls = 0;
        while (x.state(0) == 'r' && calls < 470) {
            x.step(0, 100);
            calls++;
        }
        Tries.due("35 as often as it was put off", Worlds.told(x, 0) + " " + x.prints(), "d -10000 156250");
        Tries.due("36 the last one", x.printAt(156249), -10000);
        Tries.dueThrow("36 behind it", INDEX, () -> x.printAt(156250));
    }
}
