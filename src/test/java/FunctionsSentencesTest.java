/** Promises 12 to 18 and 41, and what 'Terms' says of lines and checking: each sentence on its own. */
public final class FunctionsSentencesTest {
    private static final String FINE = "- NoSuchElementException";

    private FunctionsSentencesTest() {}

    public static void main(String[] args) {
        Tries.runAll(FunctionsSentencesTest.class);
    }

    /** An actor with a strong, a weak and an unowned field, a requirement, and two functions, the first one an owner. */
    private static ArcKeeper small() {
        ArcKeeper x = new ArcKeeper();
        x.addKind(-1, true);
        x.addField(0, 's');
        x.addField(0, 'w');
        x.addField(0, 'u');
        x.addProtocol();
        x.addRequirement(0);
        x.addFunction(true);
        x.addFunction(false);
        return x;
    }

    /** As much of everything as there may be. */
    private static ArcKeeper large() {
        ArcKeeper x = new ArcKeeper();
        x.addProtocol();
        for (int i = 0; i < 8; i++) {
            x.addKind(-1, false);
            x.addRequirement(0);
            x.addFunction(false);
        }
        for (int i = 0; i < 12; i++) {
            x.addField(0, 's');
        }
        return x;
    }

    private static ArcKeeper functions(int count) {
        ArcKeeper x = new ArcKeeper();
        for (int i = 0; i < count; i++) {
            x.addFunction(i % 2 == 0);
        }
        return x;
    }

    private static ArcKeeper withLines(String text) {
        ArcKeeper x = small();
        if (!text.isEmpty()) {
            Tries.write(x, 0, text);
        }
        return x;
    }

    private static ArcKeeper full() {
        return withLines("z" + "; z".repeat(23));
    }

    private static ArcKeeper closed() {
        ArcKeeper x = withLines("z");
        x.begin(1, -1, false);
        return x;
    }

    /** What checking finds, and at which line. */
    private static String fault(String text) {
        ArcKeeper x = withLines(text);
        return x.check(0) + " " + Tries.outcome(() -> x.checkAt(0));
    }

    // ---- promise 12

    @Says(promise = 12, words = {"Adds a function without lines.", "Returns its number."})
    static void promise12Number() {
        ArcKeeper x = new ArcKeeper();
        for (int i = 0; i < 8; i++) {
            Tries.due("number", x.addFunction(i % 2 == 0), i);
        }
    }

    @Says(promise = 12, words = "Adds a function without lines.")
    static void promise12WithoutLines() {
        ArcKeeper x = withLines("z; r 0");
        int added = x.addFunction(true);
        Tries.due("lines", x.lines(added), 0);
        Tries.due("check", x.check(added), '-');
        Tries.dueThrow("checkAt", Tries.MISSING, () -> x.checkAt(added));
        for (int variable = 0; variable < 6; variable++) {
            Tries.due("lastLine", x.lastLine(added, variable), -1);
        }
        Tries.dueThrow("isMove", Tries.INDEX, () -> x.isMove(added, 0));
        Tries.dueThrow("moveShare", Tries.ARITHMETIC, () -> x.moveShare(added));
        x.begin(added, -1, false);
        Tries.due("run", Worlds.told(x, 0), "d -10000");
    }

    @Says(promise = 12, words = "`isOwned`: whether it owns its parameter")
    static void promise12IsOwned() {
        for (boolean isOwned : new boolean[] {true, false}) {
            ArcKeeper x = new ArcKeeper();
            x.addKind(-1, false);
            Tries.function(x, isOwned, "n 1 1; n 0 1; n 1 1");
            Tries.function(x, !isOwned, "k 1 0 0; z");
            x.begin(1, 0, false);
            x.step(0, 1);
            Tries.due("in the call, owned " + isOwned, Worlds.owned(x, 0), isOwned ? "2 2" : "1 1");
            x.step(0, 3);
            Tries.due("behind it", Worlds.owned(x, 0), "1 1");
            Tries.due("kept and given up", Worlds.counts(x), isOwned ? "1 1" : "0 0");
        }
    }

    @Says(promise = 12, words = "Throws `IllegalStateException` if there are 8 functions, or a task was begun")
    static void promise12EightFunctions() {
        Tries.due("the eighth one", functions(7).addFunction(false), 7);
        Tries.dueThrow("the ninth one", Tries.STATE, () -> functions(8).addFunction(false));
        Tries.dueThrow("the ninth one, owned", Tries.STATE, () -> functions(8).addFunction(true));
    }

    @Says(promise = 12, words = "or a task was begun")
    static void promise12Begun() {
        Tries.dueThrow("behind a task", Tries.STATE, () -> closed().addFunction(false));
    }

    // ---- promise 13

    @Says(promise = 13, words = {"Adds a line to a function.", "`function`: the function",
        "Throws `IndexOutOfBoundsException` if there is no such function"})
    static void promise13Function() {
        Tries.dueRange("function", 0, 1, n -> 0, Tries.INDEX, n -> small().addLine(n, 'z', 0, 0, 0));
        Tries.dueRange("function of eight", 0, 7, n -> 0, Tries.INDEX, n -> functions(8).addLine(n, 'z', 0, 0, 0));
        Tries.dueThrow("no functions", Tries.INDEX, () -> functions(0).addLine(0, 'z', 0, 0, 0));
    }

    @Says(promise = 13, words = {"Adds a line to a function.", "Returns the number of the line."})
    static void promise13NumberOfTheLine() {
        ArcKeeper x = small();
        for (int i = 0; i < 24; i++) {
            Tries.due("number", x.addLine(0, 'n', i % 6, i, 0), i);
            Tries.due("lines", x.lines(0) + " " + x.lines(1), i + 1 + " 0");
        }
        Tries.due("of the other one", x.addLine(1, 'z', 0, 0, 0), 0);
        Tries.due("lines", x.lines(0) + " " + x.lines(1), "24 1");
    }

    @Says(promise = 13, words = {"`kind`: the kind of the line", "if there is no such kind"})
    static void promise13KindOfTheLine() {
        ArcKeeper x = small();
        int taken = 0;
        for (int sign = 0; sign <= Character.MAX_VALUE; sign++) {
            char kind = (char) sign;
            if ("mn-c+gfp?lkqrhyodevzj".indexOf(kind) >= 0) {
                Tries.due("kind " + kind, x.addLine(0, kind, 1, 0, 0), taken);
                taken++;
            } else {
                Tries.dueThrow("kind " + sign, Tries.ARGUMENT, () -> x.addLine(0, kind, 1, 0, 0));
            }
        }
        Tries.due("kinds of lines", taken, 21);
    }

    private static void ranges(ArcKeeperMaker maker, String shape, int kinds, int fields, int functions, int requirements) {
        char kind = shape.charAt(0);
        String places = shape.substring(1).trim();
        int[] low = {Integer.MIN_VALUE, Integer.MIN_VALUE, Integer.MIN_VALUE};
        int[] high = {Integer.MAX_VALUE, Integer.MAX_VALUE, Integer.MAX_VALUE};
        for (int i = 0; i < places.length(); i++) {
            char place = places.charAt(i);
            low[i] = place == 'n' ? -999 : place == 't' || place == 'h' ? 1 : 0;
            high[i] = place == 'v' || place == 't' ? 5 : place == 'n' ? 999 : place == 'h' ? 9
                    : (place == 'k' ? kinds : place == 'f' ? fields : place == 'g' ? functions : requirements) - 1;
        }
        for (int i = 0; i < places.length(); i++) {
            for (int[] others : new int[][] {low, high}) {
                int place = i;
                Tries.dueRange(shape + " at " + i, low[i], high[i], n -> 0, Tries.ARGUMENT, n -> {
                    int[] numbers = others.clone();
                    numbers[place] = n;
                    return maker.make().addLine(0, kind, numbers[0], numbers[1], numbers[2]);
                });
            }
        }
        Tries.due(shape + " lowest", maker.make().addLine(0, kind, low[0], low[1], low[2]), 0);
        Tries.due(shape + " highest", maker.make().addLine(0, kind, high[0], high[1], high[2]), 0);
    }

    private interface ArcKeeperMaker {
        ArcKeeper make();
    }

    private static final String[] SHAPES = {"m vk", "n vn", "- v", "c vv", "+ vvv", "g vvf", "f vfv", "p v", "? v",
        "l t", "k vgv", "q vrv", "r v", "h h", "y v", "o", "d", "e vf", "v v", "z", "j"};

    @Says(promise = 13, words = {"`a`: the first number, of no meaning if there is none",
        "`b`: the second one, likewise", "`c`: the third one, likewise",
        "Throws `IllegalArgumentException` if there is no such kind, or a number is out of range"})
    static void promise13Ranges() {
        for (String shape : SHAPES) {
            ranges(FunctionsSentencesTest::small, shape, 1, 3, 2, 1);
        }
    }

    @Says(promise = 0, words = {"Numbers of variables are 0 to 5, of kinds, functions, requirements and fields those "
        + "that there are when the line is added.", "it becomes the number n, -999 to 999;",
        "the part up to its end is done n times, 1 to 5;", "the error n, 1 to 9, is thrown;"})
    static void promise13RangesOfTheLargest() {
        for (String shape : SHAPES) {
            ranges(FunctionsSentencesTest::large, shape, 8, 12, 8, 8);
        }
    }

    @Says(promise = 0, words = "those that there are when the line is added.")
    static void promise13NoneYet() {
        ArcKeeper x = functions(1);
        Tries.dueThrow("no kind", Tries.ARGUMENT, () -> x.addLine(0, 'm', 0, 0, 0));
        Tries.dueThrow("no field", Tries.ARGUMENT, () -> x.addLine(0, 'g', 0, 0, 0));
        Tries.dueThrow("no field", Tries.ARGUMENT, () -> x.addLine(0, 'f', 0, 0, 0));
        Tries.dueThrow("no field", Tries.ARGUMENT, () -> x.addLine(0, 'e', 0, 0, 0));
        Tries.dueThrow("no requirement", Tries.ARGUMENT, () -> x.addLine(0, 'q', 0, 0, 0));
        Tries.dueThrow("no other function", Tries.ARGUMENT, () -> x.addLine(0, 'k', 0, 1, 0));
        Tries.due("itself", x.addLine(0, 'k', 0, 0, 0), 0);
        x.addKind(-1, false);
        Tries.due("a kind", x.addLine(0, 'm', 0, 0, 0), 1);
        x.addField(0, 'w');
        Tries.due("a field", x.addLine(0, 'g', 0, 0, 0), 2);
        x.addProtocol();
        Tries.dueThrow("a protocol is no requirement", Tries.ARGUMENT, () -> x.addLine(0, 'q', 0, 0, 0));
        x.addRequirement(0);
        Tries.due("a requirement", x.addLine(0, 'q', 0, 0, 0), 3);
        x.addFunction(false);
        Tries.due("a function", x.addLine(0, 'k', 0, 1, 0), 4);
    }

    @Says(promise = 13, words = "of no meaning if there is none")
    static void promise13NumbersOfNoMeaning() {
        String[] lines = {"m 1 0 5", "n 1 1 5", "- 1 5 5", "p 1 5 5", "? 1 5 5", "l 5 5 5", "r 1 5 5", "h 5 5 5",
            "d 5 5 5", "e 1 0 5", "v 1 5 5", "z 5 5 5"};
        for (String line : lines) {
            boolean isPart = "?ldev".indexOf(line.charAt(0)) >= 0;
            ArcKeeper x = withLines(line + (isPart ? "; j 5 5 5" : "") + "; n 2 1");
            boolean isBarrier = "phdevz".indexOf(line.charAt(0)) >= 0;
            Tries.due("the variable 5 in " + line, x.lastLine(0, 5), !isBarrier ? -1 : isPart ? 1 : 0);
        }
        ArcKeeper y = withLines("y 1 5 5; o 5 5 5; j 5 5 5");
        Tries.due("the variable 5 in a part that is tried", y.lastLine(0, 5), -1);
    }

    @Says(promise = 13, words = "Throws `IllegalStateException` if it has 24 lines, or a task was begun")
    static void promise13TwentyFourLines() {
        ArcKeeper x = withLines("z" + "; z".repeat(22));
        Tries.due("the twenty-fourth one", x.addLine(0, 'z', 0, 0, 0), 23);
        Tries.dueThrow("the twenty-fifth one", Tries.STATE, () -> x.addLine(0, 'z', 0, 0, 0));
        Tries.dueThrow("of another kind", Tries.STATE, () -> x.addLine(0, 'n', 5, 999, 0));
        Tries.due("of the other function", x.addLine(1, 'z', 0, 0, 0), 0);
    }

    @Says(promise = 13, words = "or a task was begun")
    static void promise13Begun() {
        Tries.dueThrow("of the function that runs", Tries.STATE, () -> closed().addLine(1, 'z', 0, 0, 0));
        Tries.dueThrow("of another one", Tries.STATE, () -> closed().addLine(0, 'z', 0, 0, 0));
    }

    @Says(promise = 13, words = {"if there is no such function", "if there is no such kind, or a number is out of range",
        "if it has 24 lines, or a task was begun"})
    static void promise13Order() {
        Tries.dueThrow("function ahead of kind", Tries.INDEX, () -> small().addLine(2, 'a', 0, 0, 0));
        Tries.dueThrow("function ahead of number", Tries.INDEX, () -> small().addLine(2, 'l', 0, 0, 0));
        Tries.dueThrow("function ahead of full", Tries.INDEX, () -> full().addLine(-1, 'z', 0, 0, 0));
        Tries.dueThrow("function ahead of begun", Tries.INDEX, () -> closed().addLine(2, 'z', 0, 0, 0));
        Tries.dueThrow("kind ahead of full", Tries.ARGUMENT, () -> full().addLine(0, 'a', 0, 0, 0));
        Tries.dueThrow("number ahead of full", Tries.ARGUMENT, () -> full().addLine(0, 'l', 6, 0, 0));
        Tries.dueThrow("kind ahead of begun", Tries.ARGUMENT, () -> closed().addLine(0, 'a', 0, 0, 0));
        Tries.dueThrow("number ahead of begun", Tries.ARGUMENT, () -> closed().addLine(0, 'h', 10, 0, 0));
    }

    // ---- promise 14

    @Says(promise = 14, words = {"Returns how many lines a function has.", "`function`: the function",
        "Returns the number of lines.", "Throws `IndexOutOfBoundsException` if there is no such function"})
    static void promise14Lines() {
        Tries.dueRange("function", 0, 1, n -> n == 0 ? 2 : 0, Tries.INDEX, n -> withLines("z; z").lines(n));
        Tries.dueRange("function of eight", 0, 7, n -> 0, Tries.INDEX, n -> functions(8).lines(n));
        Tries.dueThrow("no functions", Tries.INDEX, () -> functions(0).lines(0));
        Tries.due("full", full().lines(0), 24);
        Tries.due("behind a task", closed().lines(0), 1);
        Tries.due("with a fault", withLines("j; j; j").lines(0), 3);
    }

    // ---- promises 15 and 16, and checking

    @Says(promise = 15, words = {"Checks a function.", "`function`: the function",
        "Throws `IndexOutOfBoundsException` if there is no such function"})
    static void promise15Function() {
        Tries.dueRange("function", 0, 1, n -> n == 0 ? 'b' : '-', Tries.INDEX, n -> withLines("j").check(n));
        Tries.dueRange("function of eight", 0, 7, n -> '-', Tries.INDEX, n -> functions(8).check(n));
        Tries.dueThrow("no functions", Tries.INDEX, () -> functions(0).check(0));
    }

    @Says(promise = 15, words = "Returns '-' if there is no fault, otherwise 'b', 'd' or 's'.")
    static void promise15Answers() {
        Tries.due("no lines", withLines("").check(0), '-');
        Tries.due("no fault", withLines("z").check(0), '-');
        Tries.due("b", withLines("j").check(0), 'b');
        Tries.due("d", withLines("d; z; j").check(0), 'd');
        Tries.due("s", withLines("e 0 0; g 1 0 0; j").check(0), 's');
        Tries.due("behind a task", closed().check(0), '-');
    }

    @Says(promise = 16, words = {"Returns where checking finds a fault.", "`function`: the function",
        "Throws `IndexOutOfBoundsException` if there is no such function",
        "Throws `NoSuchElementException` if there is no fault"})
    static void promise16Function() {
        Tries.dueRange("function", 0, 1, n -> n == 0 ? 1 : "NoSuchElementException", Tries.INDEX,
                n -> withLines("z; j").checkAt(n));
        Tries.dueRange("function of eight", 0, 7, n -> "NoSuchElementException", Tries.INDEX,
                n -> functions(8).checkAt(n));
        Tries.dueThrow("no functions", Tries.INDEX, () -> functions(0).checkAt(0));
        Tries.dueThrow("full, and no fault", Tries.MISSING, () -> full().checkAt(0));
        Tries.dueThrow("behind a task", Tries.MISSING, () -> closed().checkAt(0));
    }

    @Says(promise = 16, words = "Returns the line, or the number of lines if one is missing.")
    static void promise16Line() {
        for (int line = 0; line < 24; line++) {
            Tries.due("the line", fault("z; ".repeat(line) + "j" + "; j".repeat(23 - line)), "b " + line);
        }
        for (int line = 0; line < 24; line++) {
            Tries.due("one is missing", fault("z; ".repeat(line) + "l 1" + "; z".repeat(23 - line)), "b 24");
        }
        Tries.due("one is missing, one line", fault("v 0"), "b 1");
    }

    @Says(promise = 0, words = {"Checking. The first fault counts, by rising lines:", "'j', the end of a part.",
        "'b', a 'j' or 'o' that ends no part,"})
    static void promise15EndsOfNoPart() {
        Tries.due("j at first", fault("j"), "b 0");
        Tries.due("j behind a part", fault("l 1; j; j"), "b 2");
        Tries.due("o at first", fault("o; j"), "b 0");
        Tries.due("o behind a part", fault("y 0; o; j; o; j"), "b 3");
        Tries.due("o in the part of an o", fault("y 0; o; o; j"), "b 2");
        for (String part : new String[] {"? 0", "l 1", "e 0 0", "v 0"}) {
            Tries.due("o in a part of " + part, fault("y 0; " + part + "; o; j; o; j"), "b 2");
            Tries.due("j in it", fault("y 0; " + part + "; j; o; j"), FINE);
        }
    }

    @Says(promise = 0, words = "or a 'y' that is ended without an 'o';")
    static void promise15TriedWithoutHandler() {
        Tries.due("at once", fault("y 0; j"), "b 1");
        Tries.due("with lines", fault("y 0; z; z; j"), "b 3");
        Tries.due("within another one", fault("y 0; y 0; j; o; j"), "b 2");
        Tries.due("in the part of an o", fault("y 0; o; y 0; j; j"), "b 3");
        Tries.due("with an o", fault("y 0; o; j"), FINE);
    }

    @Says(promise = 0, words = "If a part is not ended at the end of the function, this is 'b', behind all lines.")
    static void promise15NotEnded() {
        for (String part : new String[] {"? 0", "l 1", "y 0", "d", "e 0 0", "v 0"}) {
            Tries.due("alone " + part, fault(part), "b 1");
            Tries.due("behind an ended one " + part, fault("l 1; j; z; " + part), "b 4");
            Tries.due("the outer one " + part, fault("l 1; " + part + (part.equals("y 0") ? "; o; j" : "; j")),
                    part.equals("y 0") ? "b 4" : "b 3");
        }
        Tries.due("the part of an o", fault("y 0; o; z"), "b 3");
        Tries.due("behind all lines, so that another fault counts", fault("l 1; d; z; j"), "d 2");
        ArcKeeper x = withLines("l 1");
        Tries.due("ahead of its end", x.check(0), 'b');
        x.addLine(0, 'j', 0, 0, 0);
        Tries.due("behind its end", x.check(0), '-');
        x.addLine(0, 'j', 0, 0, 0);
        Tries.due("one end more", x.check(0) + " " + x.checkAt(0), "b 2");
        x.addLine(0, 'l', 1, 0, 0);
        Tries.due("the first one counts", x.check(0) + " " + x.checkAt(0), "b 2");
    }

    @Says(promise = 0, words = "If a part is not ended at the end of the function,")
    static void promise15DeepParts() {
        Tries.due("twelve parts", fault("l 1; ".repeat(12) + "j" + "; j".repeat(11)), FINE);
        Tries.due("twelve parts and an end less", fault("l 1; ".repeat(12) + "j" + "; j".repeat(10)), "b 23");
        Tries.due("24 starts", fault("v 0" + "; v 0".repeat(23)), "b 24");
        Tries.due("13 starts and 11 ends", fault("l 1; ".repeat(13) + "j" + "; j".repeat(10)), "b 24");
        Tries.due("eight parts that are tried", fault("y 0; ".repeat(8) + "o; j" + "; o; j".repeat(7)), FINE);
    }

    @Says(promise = 0, words = "'d', a line other than 'm', 'n', '-', 'c', '+', 'g', 'f' and 'p' in a part that is put off;")
    static void promise15PutOff() {
        for (String line : new String[] {"m 0 0", "n 0 0", "- 0", "c 0 0", "+ 0 0 0", "g 0 0 0", "f 0 0 0", "p 0"}) {
            Tries.due("taken " + line, fault("d; " + line + "; j"), FINE);
        }
        for (String line : new String[] {"? 0", "l 1", "k 0 0 0", "q 0 0 0", "r 0", "h 1", "y 0", "d", "e 0 0", "v 0", "z"}) {
            Tries.due("refused " + line, fault("d; " + line + "; j"), "d 1");
            Tries.due("refused behind others " + line, fault("z; d; n 0 0; p 0; " + line + "; j"), "d 4");
            boolean isPart = "?lydev".indexOf(line.charAt(0)) >= 0;
            String end = line.charAt(0) == 'y' ? "; o; j" : isPart ? "; j" : "";
            Tries.due("behind the part " + line, fault("d; j; " + line + end), FINE);
            Tries.due("ahead of the part " + line, fault(line + end + "; d; j"), FINE);
        }
        Tries.due("an empty part", fault("d; j"), FINE);
        Tries.due("22 lines", fault("d; " + "p 0; ".repeat(22) + "j"), FINE);
        Tries.due("the 22nd line", fault("d; " + "p 0; ".repeat(21) + "z; j"), "d 22");
    }

    @Says(promise = 0, words = "'s', in a part of an 'e', a 'g', 'f' or 'e' of the same variable and field,")
    static void promise15AccessedAgain() {
        Tries.due("g", fault("e 0 1; g 3 0 1; j"), "s 1");
        Tries.due("f", fault("e 0 1; f 0 1 3; j"), "s 1");
        Tries.due("e", fault("e 0 1; e 0 1; j; j"), "s 1");
        Tries.due("g of another variable", fault("e 0 1; g 0 3 1; j"), FINE);
        Tries.due("f of another variable", fault("e 0 1; f 3 1 0; j"), FINE);
        Tries.due("e of another variable", fault("e 0 1; e 3 1; j; j"), FINE);
        Tries.due("g of another field", fault("e 0 1; g 3 0 2; j"), FINE);
        Tries.due("f of another field", fault("e 0 1; f 0 2 1; j"), FINE);
        Tries.due("e of another field", fault("e 0 1; e 0 0; j; j"), FINE);
        Tries.due("ahead of the part", fault("g 3 0 1; f 0 1 3; e 0 1; j"), FINE);
        Tries.due("behind the part", fault("e 0 1; j; g 3 0 1; f 0 1 3; e 0 1; j"), FINE);
        Tries.due("another line of the variable", fault("e 0 1; p 0; c 1 0; k 1 0 0; r 0; j"), FINE);
        Tries.due("in parts within", fault("e 0 1; ? 0; l 1; y 2; v 0; g 3 0 1; j; o; j; j; j; j"), "s 5");
        Tries.due("in the part of an o", fault("e 0 1; y 2; o; g 3 0 1; j; j"), "s 3");
        Tries.due("in a part that is put off", fault("e 0 1; d; f 0 1 3; j; j"), "s 2");
        Tries.due("of the outer one", fault("e 0 1; e 0 2; g 3 0 1; j; j"), "s 2");
        Tries.due("of the inner one", fault("e 0 2; e 0 1; g 3 0 1; j; j"), "s 2");
        Tries.due("behind the inner one", fault("e 0 2; e 0 1; j; g 3 0 1; j"), FINE);
    }

    @Says(promise = 0, words = "if no line between sets this variable.")
    static void promise15SetBetween() {
        for (String line : new String[] {"m 0 0", "n 0 1", "- 0", "c 0 1", "+ 0 1 1", "g 0 1 1", "k 0 0 1", "q 0 0 1"}) {
            Tries.due("set by " + line, fault("e 0 1; " + line + "; g 1 0 1; j"), FINE);
            Tries.due("set in a part that ended " + line, fault("e 0 1; ? 2; " + line + "; j; f 0 1 2; j"), FINE);
            Tries.due("set ahead of it " + line, fault(line + "; e 0 1; g 1 0 1; j"), "s 2");
            Tries.due("set behind " + line, fault("e 0 1; g 1 0 1; " + line + "; j"), "s 1");
        }
        for (String line : new String[] {"m 1 0", "n 1 1", "- 1", "c 1 0", "+ 1 0 0", "g 1 0 2", "k 1 0 0", "q 1 0 0",
            "f 0 2 0", "f 1 1 0", "p 0", "r 0", "h 1", "z"}) {
            Tries.due("not set by " + line, fault("e 0 1; " + line + "; g 1 0 1; j"), "s 2");
        }
        Tries.due("by the line itself", fault("e 0 1; g 0 0 1; j"), "s 1");
        Tries.due("between the outer one and the inner one", fault("e 0 1; m 0 0; e 0 1; g 1 0 1; j; j"), "s 3");
        Tries.due("behind both", fault("e 0 1; e 0 2; m 0 0; g 1 0 1; g 1 0 2; j; j"), FINE);
        Tries.due("set in a part that is put off", fault("e 0 1; d; m 0 0; g 1 0 1; j; j"), FINE);
    }

    @Says(promise = 0, words = "The first fault counts, by rising lines:")
    static void promise15TheFirstFault() {
        Tries.due("s ahead of d", fault("e 0 0; g 1 0 0; d; z; j; j"), "s 1");
        Tries.due("s ahead of b", fault("e 0 0; g 1 0 0; j; j"), "s 1");
        Tries.due("d ahead of s", fault("d; z; j; e 0 0; g 1 0 0; j"), "d 1");
        Tries.due("d ahead of b", fault("d; z; j; j"), "d 1");
        Tries.due("b ahead of d", fault("j; d; z; j"), "b 0");
        Tries.due("b ahead of s", fault("j; e 0 0; g 1 0 0; j"), "b 0");
        Tries.due("the first one of two", fault("d; z; h 1; j"), "d 1");
    }

    // ---- promise 17

    @Says(promise = 17, words = {"`function`: the function",
        "Throws `IndexOutOfBoundsException` if there is no such function"})
    static void promise17Function() {
        Tries.dueRange("function", 0, 1, n -> n == 0 ? 0 : -1, Tries.INDEX, n -> withLines("z").lastLine(n, 0));
        Tries.dueRange("function of eight", 0, 7, n -> -1, Tries.INDEX, n -> functions(8).lastLine(n, 0));
        Tries.dueThrow("no functions", Tries.INDEX, () -> functions(0).lastLine(0, 0));
    }

    @Says(promise = 17, words = {"`variable`: the variable, 0 to 5",
        "Throws `IllegalArgumentException` if there is no such variable"})
    static void promise17Variable() {
        ArcKeeper x = withLines("n 5 1; n 4 1; n 3 1; n 2 1; n 1 1; n 0 1");
        Tries.dueRange("variable", 0, 5, n -> 5 - n, Tries.ARGUMENT, n -> x.lastLine(0, n));
        Tries.dueRange("of no lines", 0, 5, n -> -1, Tries.ARGUMENT, n -> x.lastLine(1, n));
    }

    @Says(promise = 17, words = "Throws `UnsupportedOperationException` if checking finds a fault")
    static void promise17Fault() {
        for (String text : new String[] {"j", "l 1", "d; z; j", "e 0 0; g 1 0 0; j"}) {
            Tries.dueThrow(text, Tries.UNSUPPORTED, () -> withLines(text).lastLine(0, 0));
            Tries.due("the other function", withLines(text).lastLine(1, 0), -1);
        }
    }

    @Says(promise = 17, words = {"if there is no such function", "if there is no such variable", "if checking finds a fault"})
    static void promise17Order() {
        Tries.dueThrow("function ahead of variable", Tries.INDEX, () -> withLines("j").lastLine(2, 6));
        Tries.dueThrow("function below ahead of variable", Tries.INDEX, () -> withLines("j").lastLine(-1, -1));
        Tries.dueThrow("variable ahead of fault", Tries.ARGUMENT, () -> withLines("j").lastLine(0, 6));
        Tries.dueThrow("variable below ahead of fault", Tries.ARGUMENT, () -> withLines("j").lastLine(0, -1));
    }

    private static String lasts(String text) {
        ArcKeeper x = withLines(text);
        StringBuilder lasts = new StringBuilder();
        for (int variable = 0; variable < 6; variable++) {
            lasts.append(variable == 0 ? "" : " ").append(x.lastLine(0, variable));
        }
        return lasts.toString();
    }

    @Says(promise = 17, words = {"Returns the line behind which the thrifty way gives a variable up.",
        "Returns the last line of the part, -1 if it does so as the function begins, "
        + "or the number of lines if it does not do so."})
    static void promise17Answers() {
        Tries.due("as the function begins", lasts(""), "-1 -1 -1 -1 -1 -1");
        Tries.due("the first line", lasts("- 0"), "0 -1 -1 -1 -1 -1");
        Tries.due("the last line of 24", lasts("- 1; ".repeat(23) + "- 0"), "23 22 -1 -1 -1 -1");
        Tries.due("the last line of a part", lasts("l 1; - 0; z; j; - 1"), "3 4 3 3 3 3");
        Tries.due("it does not do so", lasts("d; - 0; j; - 1"), "4 3 2 2 2 2");
        Tries.due("it does not do so in 24 lines", lasts("d; - 0; j" + "; - 1".repeat(21)), "24 23 2 2 2 2");
    }

    @Says(promise = 0, words = {"The thrifty way. The parts of a function that are not within other parts, "
        + "and lines that are in none, follow each other.", "Behind the last part that uses a variable, in any way,"})
    static void promise17LastUse() {
        String[] lines = {"m 0 0", "n 0 1", "- 0", "c 0 0", "+ 0 0 0", "g 0 0 0", "f 0 0 0", "r 0"};
        for (String line : lines) {
            Tries.due("used by " + line, lasts("z; " + line + "; n 1 1"), "1 2 0 0 0 0");
            Tries.due("within a part by " + line, lasts("z; l 1; l 1; " + line + "; j; n 2 1; j; n 1 1"), "6 7 6 0 0 0");
        }
        Tries.due("used by a ?", lasts("? 3; j; n 1 1"), "-1 2 -1 1 -1 -1");
        Tries.due("used by a y", lasts("y 3; o; j; n 1 1"), "-1 3 -1 2 -1 -1");
        Tries.due("each place of c", lasts("c 4 5; c 5 5"), "-1 -1 -1 -1 0 1");
        Tries.due("each place of +", lasts("+ 3 4 5; n 0 0"), "1 -1 -1 0 0 0");
        Tries.due("each place of g", lasts("g 3 4 0; n 0 0"), "1 -1 -1 0 0 -1");
        Tries.due("each place of f", lasts("f 3 0 4; n 1 0"), "-1 1 -1 0 0 -1");
        Tries.due("numbers that are no variables", lasts("n 1 3; m 1 0; l 4; j; f 1 2 5"), "-1 4 -1 -1 -1 4");
        Tries.due("in the part that is tried", lasts("y 1; n 2 1; o; n 3 1; j; n 4 1"), "-1 4 4 4 5 -1");
    }

    @Says(promise = 0, words = {"A part that has a 'g' of a field that is not strong, a 'k', 'q', 'p', 'h', 'v', 'z', "
        + "'e' or 'd' is a barrier.", "or is a barrier,"})
    static void promise17Barriers() {
        for (String line : new String[] {"g 0 0 1", "g 0 0 2", "k 0 0 0", "q 0 0 0", "p 0", "h 1", "z"}) {
            Tries.due("a line " + line, lasts("n 1 1; " + line + "; n 2 1"), "1 1 2 1 1 1");
            Tries.due("within parts " + line, lasts("n 1 1; l 1; ? 0; " + line + "; j; j; n 2 1"), "5 5 6 5 5 5");
            Tries.due("in the part of an o " + line, lasts("n 1 1; y 0; o; " + line + "; j; n 2 1"), "4 4 5 4 4 4");
        }
        for (String part : new String[] {"v 0", "e 0 0", "d"}) {
            Tries.due("a part " + part, lasts("n 1 1; " + part + "; j; n 2 1"), "2 2 3 2 2 2");
            Tries.due("within a part " + part, lasts("n 1 1; l 1; " + part + "; j; j; n 2 1"), "4 4 5 4 4 4");
        }
        for (String line : new String[] {"g 0 0 0", "f 0 0 0", "f 0 1 0", "f 0 2 0", "m 0 0", "n 0 0", "- 0", "c 0 0",
            "+ 0 0 0", "r 0"}) {
            Tries.due("no barrier " + line, lasts("n 1 1; " + line + "; n 2 1"), "1 0 2 -1 -1 -1");
        }
        for (String part : new String[] {"? 0; j", "l 1; - 0; j", "y 0; o; j"}) {
            int end = part.split(";").length;
            Tries.due("no barrier " + part, lasts("n 1 1; " + part + "; n 2 1"), end + " 0 " + (end + 1) + " -1 -1 -1");
        }
        Tries.due("a barrier as the last line", lasts("n 1 1; z"), "1 1 1 1 1 1");
    }

    @Says(promise = 0, words = "A variable that a part that is put off uses is not given up so.")
    static void promise17PutOff() {
        for (String line : new String[] {"m 1 0", "n 1 1", "- 1", "c 1 1", "+ 1 1 1", "g 1 1 0", "f 1 0 1", "p 1"}) {
            Tries.due("used by " + line, lasts("d; " + line + "; j; n 1 1; n 2 1"), "2 5 4 2 2 2");
        }
        Tries.due("each place", lasts("d; + 1 2 3; j"), "2 3 3 3 2 2");
        Tries.due("within a part", lasts("l 1; ? 0; d; p 1; j; j; j"), "6 7 6 6 6 6");
        Tries.due("an empty one", lasts("d; j"), "1 1 1 1 1 1");
        Tries.due("two of them", lasts("d; p 1; j; d; p 2; j"), "5 6 6 5 5 5");
        Tries.due("used ahead of it alone", lasts("n 1 1; d; p 2; j; n 3 1"), "3 3 5 4 3 3");
    }

    // ---- promise 18

    private static String moves(boolean isOwned, String text) {
        ArcKeeper x = small();
        int function = isOwned ? 0 : 1;
        Tries.write(x, function, text);
        StringBuilder moves = new StringBuilder();
        for (int line = 0; line < x.lines(function); line++) {
            moves.append(x.isMove(function, line) ? '1' : '0');
        }
        return moves.toString();
    }

    @Says(promise = 18, words = {"Returns whether a line moves a value in the thrifty way.", "`function`: the function",
        "`line`: the line", "Throws `IndexOutOfBoundsException` if there is no such function or line",
        "Returns whether it does."})
    static void promise18Ranges() {
        Tries.dueRange("function", 0, 1, n -> n == 1, Tries.INDEX, n -> {
            ArcKeeper x = withLines("z");
            x.addLine(1, 'r', 1, 0, 0);
            return x.isMove(n, 0);
        });
        Tries.dueRange("line", 0, 2, n -> n == 1, Tries.INDEX, n -> withLines("z; r 0; z").isMove(0, n));
        Tries.dueRange("line of 24", 0, 23, n -> n == 23, Tries.INDEX,
                n -> withLines("z; ".repeat(23) + "r 0").isMove(0, n));
        Tries.dueThrow("no lines", Tries.INDEX, () -> small().isMove(0, 0));
        Tries.dueThrow("no functions", Tries.INDEX, () -> functions(0).isMove(0, 0));
    }

    @Says(promise = 18, words = "Throws `UnsupportedOperationException` if checking finds a fault")
    static void promise18Fault() {
        for (String text : new String[] {"j", "l 1", "d; z; j", "e 0 0; g 1 0 0; j"}) {
            Tries.dueThrow(text, Tries.UNSUPPORTED, () -> withLines(text).isMove(0, 0));
        }
        Tries.dueThrow("function ahead of fault", Tries.INDEX, () -> withLines("j").isMove(2, 0));
        Tries.dueThrow("line ahead of fault", Tries.INDEX, () -> withLines("j").isMove(0, 1));
        Tries.dueThrow("line below ahead of fault", Tries.INDEX, () -> withLines("j").isMove(0, -1));
    }

    @Says(promise = 0, words = "In a line that is a part for itself, a 'c', or an 'f' of a strong field, moves the value,")
    static void promise18Lines() {
        Tries.due("c", moves(true, "c 1 2"), "1");
        Tries.due("f of a strong field", moves(true, "f 1 0 2"), "1");
        Tries.due("f of a weak field", moves(true, "f 1 1 2"), "0");
        Tries.due("f of an unowned field", moves(true, "f 1 2 2"), "0");
        for (String line : new String[] {"m 1 0", "n 1 1", "- 1", "+ 1 2 3", "g 1 2 0", "p 1", "k 1 0 2", "q 1 0 2", "h 1", "z"}) {
            Tries.due("another line " + line, moves(true, line), "0");
        }
        for (String part : new String[] {"? 0", "l 1", "d", "e 0 0", "v 0"}) {
            Tries.due("c in a part " + part, moves(true, part + "; c 1 2; j"), "000");
            Tries.due("f in a part " + part, moves(true, part + "; f 1 0 2; j"), "000");
        }
        Tries.due("in a part that is tried", moves(true, "y 0; c 1 2; f 3 0 4; o; c 4 3; f 2 0 1; j"), "0000000");
        Tries.due("behind a part", moves(true, "l 1; c 1 2; j; c 3 1; f 3 0 4"), "00011");
    }

    @Says(promise = 0, words = {"if the variable from which it is taken stands in the line only once,",
        "is given up behind this line by what was told,"})
    static void promise18TheVariable() {
        Tries.due("c of itself", moves(true, "c 1 1"), "0");
        Tries.due("f of itself", moves(true, "f 1 0 1"), "0");
        Tries.due("the field has the number of the variable", moves(true, "f 1 0 0"), "1");
        Tries.due("used later", moves(true, "c 1 2; p 2"), "00");
        Tries.due("set later", moves(true, "c 1 2; n 2 1"), "00");
        Tries.due("where it was put is used later", moves(true, "c 1 2; + 1 1 1"), "10");
        Tries.due("where it is put is used later", moves(true, "f 1 0 2; - 1"), "10");
        Tries.due("a barrier later", moves(true, "c 1 2; z"), "00");
        Tries.due("a barrier ahead of it", moves(true, "z; c 1 2"), "01");
        Tries.due("put off", moves(true, "d; p 2; j; c 1 2; c 1 3"), "00001");
        Tries.due("the last line of 24", moves(true, "z; ".repeat(23) + "c 1 2"), "0".repeat(23) + "1");
    }

    @Says(promise = 0, words = "and is not a parameter that the function does not own:")
    static void promise18TheParameter() {
        Tries.due("owned c", moves(true, "c 1 0"), "1");
        Tries.due("owned f", moves(true, "f 1 0 0"), "1");
        Tries.due("owned r", moves(true, "r 0"), "1");
        Tries.due("not owned c", moves(false, "c 1 0"), "0");
        Tries.due("not owned f", moves(false, "f 1 0 0"), "0");
        Tries.due("not owned r", moves(false, "r 0"), "0");
        Tries.due("it is put where the parameter is", moves(false, "c 0 1"), "1");
        Tries.due("it is put into the parameter", moves(false, "f 0 0 1"), "1");
        Tries.due("another variable", moves(false, "c 1 2; f 3 0 4; r 5"), "111");
    }

    @Says(promise = 0, words = "An 'r' that is a part for itself moves its value, too, if its variable is no such "
        + "parameter, and no part of the function is put off.")
    static void promise18Returns() {
        Tries.due("r", moves(true, "r 1"), "1");
        Tries.due("though it is used later", moves(true, "r 1; p 1; z"), "100");
        Tries.due("each of them", moves(true, "r 1; r 1; r 0"), "111");
        for (String part : new String[] {"? 0", "l 1", "e 0 0", "v 0"}) {
            Tries.due("in a part " + part, moves(true, part + "; r 1; j; r 1"), "0001");
        }
        Tries.due("in a part, behind other lines", moves(true, "? 0; n 1 1; n 2 2; r 1; n 3 3; r 2; j; r 1"), "00000001");
        Tries.due("in a part that is tried", moves(true, "y 0; r 1; o; r 1; j; r 1"), "000001");
        Tries.due("a part put off ahead", moves(true, "d; j; r 1"), "000");
        Tries.due("a part put off behind", moves(true, "r 1; d; j"), "000");
        Tries.due("a part put off within another one", moves(true, "r 1; l 1; ? 0; d; j; j; j"), "0000000");
        Tries.due("of another function", movesBesidePutOff(), "1");
    }

    private static String movesBesidePutOff() {
        ArcKeeper x = small();
        Tries.write(x, 0, "d; j; r 1");
        Tries.write(x, 1, "r 1");
        return x.isMove(1, 0) ? "1" : "0";
    }

    // ---- promise 41

    @Says(promise = 41, words = {"Returns the share of the lines of a function that move values in the thrifty way.",
        "Returns their number divided by that of its lines, both converted to float."})
    static void promise41Share() {
        for (int lines = 1; lines <= 24; lines++) {
            for (int moves = 0; moves <= lines; moves++) {
                String text = "; r 1".repeat(moves) + "; z".repeat(lines - moves);
                Tries.due(moves + " of " + lines, withLines(text.substring(2)).moveShare(0), (float) moves / (float) lines);
            }
        }
    }

    @Says(promise = 41, words = {"`function`: the function",
        "Throws `IndexOutOfBoundsException` if there is no such function",
        "Throws `UnsupportedOperationException` if checking finds a fault",
        "Throws `ArithmeticException` if it has no lines"})
    static void promise41Refusals() {
        Tries.dueRange("function", 0, 1, n -> n == 0 ? (Object) 1f : "ArithmeticException", Tries.INDEX,
                n -> withLines("r 0").moveShare(n));
        Tries.dueRange("function of eight", 0, 7, n -> "ArithmeticException", Tries.INDEX, n -> functions(8).moveShare(n));
        Tries.dueThrow("no functions", Tries.INDEX, () -> functions(0).moveShare(0));
        for (String text : new String[] {"j", "l 1", "d; z; j", "e 0 0; g 1 0 0; j"}) {
            Tries.dueThrow(text, Tries.UNSUPPORTED, () -> withLines(text).moveShare(0));
            Tries.dueThrow("function ahead of fault", Tries.INDEX, () -> withLines(text).moveShare(2));
        }
    }
}
