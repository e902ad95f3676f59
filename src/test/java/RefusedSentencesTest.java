import java.util.ArrayList;
import java.util.List;

/** "A method that throws an exception changes nothing": each method with each of its exceptions. */
public final class RefusedSentencesTest {
    private static final int[] ODD = {Integer.MIN_VALUE, -10000, -2, -1, 8, 12, 24, 100, 10000, Integer.MAX_VALUE};

    private RefusedSentencesTest() {}

    public static void main(String[] args) {
        Tries.runAll(RefusedSentencesTest.class);
    }

    /** All that can be asked of a language without changing it. */
    private static String picture(ArcKeeper x) {
        List<Object> seen = new ArrayList<>();
        for (int kind = 0; kind < 9; kind++) {
            int k = kind;
            for (int number = 0; number < 9; number++) {
                int n = number;
                seen.add(Tries.outcome(() -> x.conforms(k, n)));
                seen.add(Tries.outcome(() -> x.witnessOf(k, n)));
            }
        }
        for (int function = 0; function < 9; function++) {
            addFunction(x, function, seen);
        }
        for (int task = 0; task < 7; task++) {
            int t = task;
            seen.add(Tries.outcome(() -> x.state(t)));
            seen.add(Tries.outcome(() -> x.trap(t)));
            seen.add(Tries.outcome(() -> x.error(t)));
            seen.add(Tries.outcome(() -> x.at(t)));
            seen.add(Tries.outcome(() -> x.depth(t)));
            seen.add(Tries.outcome(() -> x.result(t)));
        }
        addObjects(x, seen);
        return seen.toString();
    }

    private static void addFunction(ArcKeeper x, int f, List<Object> seen) {
        seen.add(Tries.outcome(() -> x.lines(f)));
        seen.add(Tries.outcome(() -> x.check(f)));
        seen.add(Tries.outcome(() -> x.checkAt(f)));
        seen.add(Tries.outcome(() -> x.moveShare(f)));
        for (int place = 0; place < 25; place++) {
            int p = place;
            seen.add(Tries.outcome(() -> x.lastLine(f, p)));
            seen.add(Tries.outcome(() -> x.isMove(f, p)));
        }
    }

    private static void addObjects(ArcKeeper x, List<Object> seen) {
        seen.add(x.made() + " " + x.alive() + " " + x.accesses() + " " + x.kept() + " " + x.givenUp() + " " + x.isSound());
        for (int object = 0; object <= x.made(); object++) {
            int o = object;
            seen.add(Tries.outcome(() -> x.isAlive(o)));
            seen.add(Tries.outcome(() -> x.kindOf(o)));
            seen.add(Tries.outcome(() -> x.countOf(o)));
            seen.add(Tries.outcome(() -> x.ownersOf(o)));
            seen.add(Tries.outcome(() -> x.occupiedBy(o)));
        }
        seen.add(x.prints() + " " + Tries.printed(x));
        seen.add(x.deaths() + " " + Tries.died(x));
        seen.add(Tries.outcome(x::meanSteps));
    }

    /** A call is refused, and the picture is the same behind it. */
    private static void refused(ArcKeeper x, String what, Class<? extends RuntimeException> want, Tries.Call call) {
        String before = picture(x);
        Tries.dueThrow(what, want, call);
        Tries.due(what + " changes nothing", picture(x), before);
    }

    private static ArcKeeper declared() {
        ArcKeeper x = Worlds.world("m 1 0; f 1 0 0; r 1", "owned p 0");
        x.conform(0, 0, -1);
        x.setWitness(0, 0, 1);
        return x;
    }

    private static ArcKeeper full() {
        ArcKeeper x = new ArcKeeper();
        for (int i = 0; i < 4; i++) {
            x.addProtocol();
        }
        for (int i = 0; i < 8; i++) {
            x.addKind(-1, false);
            x.addRequirement(i % 4);
            x.addFunction(true);
            x.addField(i, 's');
        }
        for (int i = 8; i < 12; i++) {
            x.addField(0, 'w');
        }
        for (int i = 0; i < 24; i++) {
            x.addLine(3, 'n', 1, i, 0);
        }
        return x;
    }

    private static ArcKeeper running() {
        ArcKeeper x = Worlds.world("m 1 1; e 1 1; v 1; d; p 1; j; l 5; n 2 2; j; z; k 3 1 1; j; j; h 2", "owned v 0; z; j; r 0", "h 3",
                "n 1 1; v 1; j", "r 0");
        x.conform(0, 0, -1);
        x.setDefault(0, 1);
        for (int task = 0; task < 5; task++) {
            x.begin(task, 1, task % 2 == 0);
            x.step(task, task == 0 ? 9 : 1);
        }
        x.step(3, 1);
        return x;
    }

    @Says(promise = 0, words = {"Exceptions. A method that throws an exception changes nothing."})
    static void refusedDeclarationsAheadOfTasks() {
        ArcKeeper x = declared();
        for (int odd : ODD) {
            if (odd != -1) {
                refused(x, "addKind", Tries.ARGUMENT, () -> x.addKind(odd, true));
                refused(x, "conform", Tries.ARGUMENT, () -> x.conform(1, 0, odd));
            }
            refused(x, "addField", Tries.INDEX, () -> x.addField(odd, 's'));
            refused(x, "setCode", Tries.INDEX, () -> x.setCode(odd, 1));
            refused(x, "setCode", Tries.ARGUMENT, () -> x.setCode(0, odd == 8 || odd == 12 || odd == 24 || odd == 100 ? 1000 : odd));
            refused(x, "addRequirement", Tries.INDEX, () -> x.addRequirement(odd));
            refused(x, "conform", Tries.INDEX, () -> x.conform(odd, 0, -1));
            refused(x, "conform", Tries.INDEX, () -> x.conform(1, odd, -1));
            refused(x, "setWitness", Tries.INDEX, () -> x.setWitness(odd, 0, 0));
            refused(x, "setWitness", Tries.INDEX, () -> x.setWitness(0, odd, 0));
            refused(x, "setWitness", Tries.INDEX, () -> x.setWitness(0, 0, odd));
            refused(x, "setDefault", Tries.INDEX, () -> x.setDefault(odd, 0));
            refused(x, "setDefault", Tries.INDEX, () -> x.setDefault(0, odd));
            refused(x, "addLine", Tries.INDEX, () -> x.addLine(odd, 'z', 0, 0, 0));
            refused(x, "addLine", Tries.ARGUMENT, () -> x.addLine(0, 'p', odd, 0, 0));
            refused(x, "begin", Tries.INDEX, () -> x.begin(odd, -1, false));
            refused(x, "step", Tries.INDEX, () -> x.step(odd, 1));
        }
        refused(x, "addField", Tries.ARGUMENT, () -> x.addField(0, 'x'));
        refused(x, "addLine", Tries.ARGUMENT, () -> x.addLine(0, 'x', 0, 0, 0));
        refused(x, "addLine", Tries.ARGUMENT, () -> x.addLine(0, '+', 0, 0, 6));
        refused(x, "begin", Tries.INDEX, () -> x.begin(0, 3, false));
        Tries.due("the next kind", x.addKind(0, true), 3);
        Tries.due("the next field", x.addField(0, 's'), 4);
        Tries.due("the next protocol", x.addProtocol(), 1);
        Tries.due("the next requirement", x.addRequirement(1), 1);
        Tries.due("the next function", x.addFunction(true), 2);
        Tries.due("the next line", x.addLine(0, 'z', 0, 0, 0), 3);
        Tries.due("the code", x.setCode(0, 5), 10);
        Tries.due("what was told", x.conform(1, 0, -1), false);
        Tries.due("the witness", x.setWitness(1, 0, 0), false);
        Tries.due("the default", x.setDefault(0, 0), false);
        Tries.due("the first task", x.begin(0, 2, false), 0);
        Tries.due("its object is the first one", x.made() + " " + x.kindOf(0), "1 2");
    }

    @Says(promise = 0, words = {"A method that throws an exception changes nothing."})
    static void refusedDeclarationsOfWhatIsFull() {
        ArcKeeper x = full();
        refused(x, "addKind", Tries.STATE, () -> x.addKind(-1, true));
        refused(x, "addField", Tries.STATE, () -> x.addField(0, 's'));
        refused(x, "addProtocol", Tries.STATE, () -> x.addProtocol());
        refused(x, "addRequirement", Tries.STATE, () -> x.addRequirement(0));
        refused(x, "addFunction", Tries.STATE, () -> x.addFunction(false));
        refused(x, "addLine", Tries.STATE, () -> x.addLine(3, 'j', 0, 0, 0));
        Tries.due("other calls go on", x.setCode(7, 1) + " " + x.conform(7, 3, -1) + " " + x.addLine(2, 'z', 0, 0, 0), "0 false 0");
        Tries.due("a task begins", x.begin(3, 7, true) + " " + x.step(0, 100), "0 24");
        Tries.due("with the code that was set", Tries.died(x), "1");
    }

    @Says(promise = 0, words = {"A method that throws an exception changes nothing."})
    static void refusedDeclarationsBehindATask() {
        ArcKeeper x = running();
        refused(x, "addKind", Tries.STATE, () -> x.addKind(-1, true));
        refused(x, "addField", Tries.STATE, () -> x.addField(0, 's'));
        refused(x, "setCode", Tries.STATE, () -> x.setCode(1, 999));
        refused(x, "addProtocol", Tries.STATE, () -> x.addProtocol());
        refused(x, "addRequirement", Tries.STATE, () -> x.addRequirement(0));
        refused(x, "conform", Tries.STATE, () -> x.conform(2, 0, -1));
        refused(x, "conform", Tries.STATE, () -> x.conform(0, 0, 0));
        refused(x, "setWitness", Tries.STATE, () -> x.setWitness(0, 0, 0));
        refused(x, "setDefault", Tries.STATE, () -> x.setDefault(0, 0));
        refused(x, "addFunction", Tries.STATE, () -> x.addFunction(false));
        refused(x, "addLine", Tries.STATE, () -> x.addLine(1, 'p', 0, 0, 0));
        refused(x, "addLine", Tries.STATE, () -> x.addLine(0, 'n', 1, 5, 0));
        refused(x, "addLine", Tries.STATE, () -> x.addLine(0, 'j', 1, 5, 0));
        int deaths = x.deaths();
        Tries.due("the rest of the task", Worlds.ended(x, 0), "e 2 in 15");
        Tries.due("dies with the codes that were set", Tries.died(x).substring(3 * deaths), "11 10 11 10");
    }

    @Says(promise = 0, words = {"A method that throws an exception changes nothing."})
    static void refusedBegins() {
        ArcKeeper x = running();
        x.begin(0, -1, false);
        for (int kind = -1; kind < 3; kind++) {
            int asked = kind;
            refused(x, "a seventh task", Tries.STATE, () -> x.begin(0, asked, true));
        }
        refused(x, "no such kind", Tries.INDEX, () -> x.begin(0, 3, true));
        refused(x, "no such function", Tries.INDEX, () -> x.begin(5, 0, true));
        ArcKeeper y = Worlds.world("p 0; z", "j");
        refused(y, "a fault", Tries.UNSUPPORTED, () -> y.begin(0, 0, false));
        refused(y, "a fault of its own", Tries.UNSUPPORTED, () -> y.begin(1, 0, false));
        Tries.due("no task was begun", y.setCode(0, 1) + " " + y.addFunction(false), "10 2");
        ArcKeeper z = Worlds.world("l 5; l 5; l 5; m 1 2; j; j; j; l 5; l 5; m 1 2; j; j", "z");
        z.begin(0, -1, false);
        Worlds.ended(z, 0);
        refused(z, "150 objects", Tries.STATE, () -> z.begin(1, 0, false));
        Tries.due("the next number", z.begin(1, -1, false), 1);
    }

    @Says(promise = 0, words = {"A method that throws an exception changes nothing."})
    static void refusedSteps() {
        ArcKeeper x = running();
        for (int steps : new int[] {Integer.MIN_VALUE, -1, 0, 101, Integer.MAX_VALUE}) {
            refused(x, "steps", Tries.ARGUMENT, () -> x.step(0, steps));
            refused(x, "steps of one that has ended", Tries.ARGUMENT, () -> x.step(2, steps));
        }
        for (int task = 2; task < 5; task++) {
            int ended = task;
            refused(x, "ended " + x.state(task), Tries.STATE, () -> x.step(ended, 1));
        }
        refused(x, "no such task", Tries.INDEX, () -> x.step(5, 1));
        refused(x, "no such task", Tries.INDEX, () -> x.step(-1, 1));
        Tries.due("the line", x.at(0), 7);
        Tries.due("one step", x.step(0, 1) + " " + x.at(0), "1 8");
    }

    @Says(promise = 0, words = {"A method that throws an exception changes nothing."})
    static void refusedQuestions() {
        ArcKeeper x = running();
        for (int odd : ODD) {
            refused(x, "conforms", Tries.INDEX, () -> x.conforms(odd, 0));
            refused(x, "conforms", Tries.INDEX, () -> x.conforms(0, odd));
            refused(x, "witnessOf", Tries.INDEX, () -> x.witnessOf(odd, 0));
            refused(x, "witnessOf", Tries.INDEX, () -> x.witnessOf(0, odd));
            refused(x, "lines", Tries.INDEX, () -> x.lines(odd));
            refused(x, "check", Tries.INDEX, () -> x.check(odd));
            refused(x, "checkAt", Tries.INDEX, () -> x.checkAt(odd));
            refused(x, "lastLine", Tries.INDEX, () -> x.lastLine(odd, 0));
            refused(x, "lastLine", Tries.ARGUMENT, () -> x.lastLine(0, odd));
            refused(x, "isMove", Tries.INDEX, () -> x.isMove(odd, 0));
            refused(x, "moveShare", Tries.INDEX, () -> x.moveShare(odd));
            refused(x, "state", Tries.INDEX, () -> x.state(odd));
            refused(x, "trap", Tries.INDEX, () -> x.trap(odd));
            refused(x, "error", Tries.INDEX, () -> x.error(odd));
            refused(x, "at", Tries.INDEX, () -> x.at(odd));
            refused(x, "depth", Tries.INDEX, () -> x.depth(odd));
            refused(x, "result", Tries.INDEX, () -> x.result(odd));
            refused(x, "isAlive", Tries.INDEX, () -> x.isAlive(odd == 8 ? 9 : odd));
            refused(x, "kindOf", Tries.INDEX, () -> x.kindOf(odd == 8 ? 9 : odd));
            refused(x, "countOf", Tries.INDEX, () -> x.countOf(odd == 8 ? 9 : odd));
            refused(x, "ownersOf", Tries.INDEX, () -> x.ownersOf(odd == 8 ? 9 : odd));
            refused(x, "occupiedBy", Tries.INDEX, () -> x.occupiedBy(odd == 8 ? 9 : odd));
            refused(x, "printAt", Tries.INDEX, () -> x.printAt(odd));
            refused(x, "deathAt", Tries.INDEX, () -> x.deathAt(odd));
        }
        refused(x, "no witness", Tries.MISSING, () -> x.witnessOf(2, 0));
        refused(x, "no fault", Tries.MISSING, () -> x.checkAt(0));
        refused(x, "no trap", Tries.MISSING, () -> x.trap(0));
        refused(x, "no error", Tries.MISSING, () -> x.error(0));
        refused(x, "no line", Tries.MISSING, () -> x.at(2));
        refused(x, "no result", Tries.MISSING, () -> x.result(0));
        refused(x, "no task in it", Tries.MISSING, () -> x.occupiedBy(0));
        Tries.due("the picture itself", picture(x), picture(running()));
    }

    @Says(promise = 0, words = "If several exceptions apply, the one that is documented first is thrown.")
    static void refusedOfTwoQuestions() {
        ArcKeeper x = Worlds.world("j");
        Tries.dueThrow("lastLine", Tries.INDEX, () -> x.lastLine(1, 6));
        Tries.dueThrow("lastLine", Tries.ARGUMENT, () -> x.lastLine(0, 6));
        Tries.dueThrow("isMove", Tries.INDEX, () -> x.isMove(0, 1));
        Tries.dueThrow("moveShare", Tries.INDEX, () -> x.moveShare(1));
        Tries.dueThrow("moveShare", Tries.UNSUPPORTED, () -> x.moveShare(0));
        Tries.dueThrow("begin", Tries.INDEX, () -> x.begin(0, 3, false));
        Tries.dueThrow("begin", Tries.INDEX, () -> x.begin(1, 0, false));
        ArcKeeper y = full();
        Tries.dueThrow("addKind", Tries.ARGUMENT, () -> y.addKind(8, false));
        Tries.dueThrow("addField", Tries.INDEX, () -> y.addField(8, '?'));
        Tries.dueThrow("addField", Tries.ARGUMENT, () -> y.addField(7, '?'));
        Tries.dueThrow("addRequirement", Tries.INDEX, () -> y.addRequirement(4));
        Tries.dueThrow("conform", Tries.INDEX, () -> y.conform(8, 4, 4));
        Tries.dueThrow("conform", Tries.ARGUMENT, () -> y.conform(7, 3, 4));
        Tries.dueThrow("addLine", Tries.INDEX, () -> y.addLine(8, '?', 6, 0, 0));
        Tries.dueThrow("addLine", Tries.ARGUMENT, () -> y.addLine(3, '?', 6, 0, 0));
    }
}
