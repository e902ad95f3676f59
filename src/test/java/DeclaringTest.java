import java.util.NoSuchElementException;

/** Promises 1 to 18 and 41: kinds, protocols and functions, ahead of any run. */
public final class DeclaringTest {
    private static final Class<IndexOutOfBoundsException> INDEX = IndexOutOfBoundsException.class;
    private static final Class<IllegalArgumentException> ARGUMENT = IllegalArgumentException.class;
    private static final Class<IllegalStateException> STATE = IllegalStateException.class;
    private static final Class<UnsupportedOperationException> UNSUPPORTED = UnsupportedOperationException.class;
    private static final Class<NoSuchElementException> MISSING = NoSuchElementException.class;
    private static final int[] ODD = {Integer.MIN_VALUE, -2, Integer.MAX_VALUE};

    private DeclaringTest() {}

    public static void main(String[] args) {
        newObject();
        addKind();
        addField();
        setCode();
        addProtocolAndRequirement();
        conform();
        witnesses();
        addFunction();
        addLineRanges();
        addLineLimits();
        checkParts();
        checkPutOff();
        checkAccess();
        lastLine();
        lastLineAndParts();
        isMove();
        moveShare();
        Tries.end("DeclaringTest");
    }

    private static ArcKeeper begun() {
        ArcKeeper x = new ArcKeeper();
        x.addKind(-1, false);
        x.addField(0, 's');
        x.addProtocol();
        x.addRequirement(0);
        x.addFunction(false);
        x.begin(0, -1, false);
        return x;
    }

    private static void newObject() {
        ArcKeeper x = new ArcKeeper();
        Tries.dueThrow("1 no kind", INDEX, () -> x.setCode(0, 0));
        Tries.dueThrow("1 no protocol", INDEX, () -> x.addRequirement(0));
        Tries.dueThrow("1 no function", INDEX, () -> x.lines(0));
        Tries.dueThrow("1 no task", INDEX, () -> x.state(0));
        Tries.due("1 no objects", x.made() + x.alive() + x.accesses() + x.prints() + x.deaths(), 0);
        Tries.due("1 no counts", x.kept() + x.givenUp(), 0L);
        Tries.due("1 sound", x.isSound(), true);
    }

    private static void addKind() {
        ArcKeeper x = new ArcKeeper();
        Tries.dueThrow("2 no parent yet", ARGUMENT, () -> x.addKind(0, false));
        for (int odd : ODD) {
            Tries.dueThrow("2 odd parent", ARGUMENT, () -> x.addKind(odd, true));
        }
        for (int i = 0; i < 8; i++) {
            Tries.due("2 number", x.addKind(i - 1, i % 2 == 0), i);
        }
        Tries.dueThrow("2 eight", STATE, () -> x.addKind(-1, false));
        Tries.dueThrow("2 argument first", ARGUMENT, () -> x.addKind(8, false));
        Tries.dueThrow("2 begun", STATE, () -> begun().addKind(-1, false));
        Tries.dueThrow("2 begun, argument first", ARGUMENT, () -> begun().addKind(1, false));
    }

    private static void addField() {
        ArcKeeper x = new ArcKeeper();
        Tries.dueThrow("3 no kind", INDEX, () -> x.addField(0, '?'));
        x.addKind(-1, false);
        x.addKind(-1, false);
        for (char type : new char[] {'S', 'v', 't', 0, 371, 65535}) {
            Tries.dueThrow("3 no type", ARGUMENT, () -> x.addField(0, type));
        }
        Tries.dueThrow("3 index first", INDEX, () -> x.addField(2, 'x'));
        Tries.dueThrow("3 below", INDEX, () -> x.addField(-1, 's'));
        for (int i = 0; i < 12; i++) {
            Tries.due("3 number over all kinds", x.addField(i % 2, "swu".charAt(i % 3)), i);
        }
        Tries.dueThrow("3 twelve", STATE, () -> x.addField(0, 's'));
        Tries.dueThrow("3 type first", ARGUMENT, () -> x.addField(0, 'x'));
        Tries.dueThrow("3 begun", STATE, () -> begun().addField(0, 's'));
    }

    private static void setCode() {
        ArcKeeper x = new ArcKeeper();
        Tries.dueThrow("4 no kind", INDEX, () -> x.setCode(0, -1));
        x.addKind(-1, false);
        Tries.due("4 at first", x.setCode(0, 999), 0);
        Tries.dueThrow("4 too high", ARGUMENT, () -> x.setCode(0, 1000));
        Tries.dueThrow("4 too low", ARGUMENT, () -> x.setCode(0, -1));
        Tries.due("4 before", x.setCode(0, 0), 999);
        Tries.due("4 again", x.setCode(0, 5), 0);
        ArcKeeper y = begun();
        Tries.dueThrow("4 begun", STATE, () -> y.setCode(0, 1));
        Tries.dueThrow("4 begun, argument first", ARGUMENT, () -> y.setCode(0, 1000));
    }

    private static void addProtocolAndRequirement() {
        ArcKeeper x = new ArcKeeper();
        for (int i = 0; i < 4; i++) {
            Tries.due("5 number", x.addProtocol(), i);
        }
        Tries.dueThrow("5 four", STATE, () -> x.addProtocol());
        Tries.dueThrow("5 begun", STATE, () -> begun().addProtocol());
        for (int odd : ODD) {
            Tries.dueThrow("6 odd", INDEX, () -> x.addRequirement(odd));
        }
        Tries.dueThrow("6 no protocol", INDEX, () -> x.addRequirement(4));
        for (int i = 0; i < 8; i++) {
            Tries.due("6 number", x.addRequirement(3 - i % 4), i);
        }
        Tries.dueThrow("6 eight", STATE, () -> x.addRequirement(0));
        Tries.dueThrow("6 index first", INDEX, () -> x.addRequirement(-1));
        Tries.dueThrow("6 begun", STATE, () -> begun().addRequirement(0));
    }

    private static void conform() {
        ArcKeeper x = new ArcKeeper();
        x.addKind(-1, false);
        x.addKind(0, false);
        x.addKind(1, false);
        x.addProtocol();
        x.addProtocol();
        x.addProtocol();
        Tries.dueThrow("7 kind", INDEX, () -> x.conform(3, 0, 9));
        Tries.dueThrow("7 protocol", INDEX, () -> x.conform(0, 3, 9));
        Tries.dueThrow("7 condition", ARGUMENT, () -> x.conform(0, 0, 3));
        Tries.dueThrow("7 condition below", ARGUMENT, () -> x.conform(0, 0, -2));
        Tries.due("7 not told", x.conform(0, 0, 1), false);
        Tries.due("10 the condition has no parent", x.conforms(0, 0), false);
        Tries.due("7 told", x.conform(0, 0, -1), true);
        Tries.due("10 in place of it", x.conforms(0, 0), true);
        Tries.due("10 by the parent", x.conforms(2, 0), true);
        Tries.due("10 another", x.conforms(2, 1), false);
        x.conform(1, 1, 0);
        x.conform(2, 2, 1);
        Tries.due("10 condition", x.conforms(1, 1), true);
        Tries.due("10 chain of conditions", x.conforms(2, 2), true);
        Tries.due("10 not the kind itself", x.conforms(1, 2), false);
        x.conform(0, 0, 2);
        Tries.due("10 the chain falls", x.conforms(2, 2), false);
        Tries.due("10 and its start", x.conforms(1, 1), false);
        x.conform(2, 0, 0);
        Tries.due("10 it is the parent that must conform", x.conforms(2, 0), false);
        Tries.dueThrow("10 kind", INDEX, () -> x.conforms(-1, 0));
        Tries.dueThrow("10 protocol", INDEX, () -> x.conforms(0, -1));
        Tries.dueThrow("7 begun", STATE, () -> begun().conform(0, 0, -1));
        Tries.dueThrow("7 begun, argument first", ARGUMENT, () -> begun().conform(0, 0, 1));
    }

    private static void witnesses() {
        ArcKeeper x = new ArcKeeper();
        for (int i = 0; i < 4; i++) {
            x.addKind(i - 1, false);
            x.addFunction(false);
        }
        x.addProtocol();
        x.addProtocol();
        x.addRequirement(0);
        x.addRequirement(1);
        Tries.dueThrow("8 kind", INDEX, () -> x.setWitness(4, 0, 0));
        Tries.dueThrow("8 requirement", INDEX, () -> x.setWitness(0, 2, 0));
        Tries.dueThrow("8 function", INDEX, () -> x.setWitness(0, 0, 4));
        Tries.dueThrow("9 requirement", INDEX, () -> x.setDefault(2, 0));
        Tries.dueThrow("9 function", INDEX, () -> x.setDefault(0, -1));
        Tries.dueThrow("11 kind", INDEX, () -> x.witnessOf(4, 0));
        Tries.dueThrow("11 requirement", INDEX, () -> x.witnessOf(0, -1));
        Tries.due("8 none before", x.setWitness(1, 0, 1), false);
        Tries.due("8 one before", x.setWitness(1, 0, 2), true);
        Tries.dueThrow("11 told nothing", MISSING, () -> x.witnessOf(1, 0));
        x.conform(0, 0, -1);
        Tries.dueThrow("11 conforms by its parent only", MISSING, () -> x.witnessOf(1, 0));
        Tries.due("9 none before", x.setDefault(0, 3), false);
        Tries.due("9 one before", x.setDefault(0, 0), true);
        Tries.due("9 the function 0 before", x.setDefault(0, 0), true);
        Tries.due("11 default", x.witnessOf(1, 0), 0);
        x.conform(1, 0, 1);
        Tries.due("11 the condition does not hold", x.witnessOf(1, 0), 0);
        x.conform(0, 1, -1);
        Tries.due("11 it holds", x.witnessOf(1, 0), 2);
        Tries.due("11 from further down", x.witnessOf(3, 0), 2);
        Tries.due("11 above it", x.witnessOf(0, 0), 0);
        Tries.due("8 none there", x.setWitness(2, 0, 0), false);
        Tries.due("8 the function 0 before", x.setWitness(2, 0, 3), true);
        Tries.due("11 a nearer one that was not told", x.witnessOf(3, 0), 2);
        x.conform(2, 0, -1);
        Tries.due("11 the nearest one", x.witnessOf(3, 0), 3);
        Tries.dueThrow("11 another requirement", MISSING, () -> x.witnessOf(3, 1));
        Tries.dueThrow("8 begun", STATE, () -> begun().setWitness(0, 0, 0));
        Tries.dueThrow("9 begun", STATE, () -> begun().setDefault(0, 0));
    }

    private static void addFunction() {
        ArcKeeper x = new ArcKeeper();
        for (int i = 0; i < 8; i++) {
            Tries.due("12 number", x.addFunction(i % 2 == 0), i);
            Tries.due("12 no lines", x.lines(i), 0);
        }
        Tries.dueThrow("12 eight", STATE, () -> x.addFunction(true));
        Tries.dueThrow("12 begun", STATE, () -> begun().addFunction(true));
    }

    private static ArcKeeper small() {
        ArcKeeper x = new ArcKeeper();
        x.addKind(-1, true);
        x.addField(0, 's');
        x.addField(0, 'w');
        x.addField(0, 'u');
        x.addProtocol();
        x.addRequirement(0);
        x.addFunction(true);
        x.addFunction(false);
        return x;
    }

    /** For each kind of line: the first and the last number in range, at each place. */
    private static void addLineRanges() {
        String[] shapes = {
            "m vk", "n vn", "- v", "c vv", "+ vvv", "g vvf", "f vfv", "p v", "? v", "l t", "k vgv", "q vrv", "r v",
            "h h", "y v", "o", "d", "e vf", "v v", "z", "j"
        };
        for (String shape : shapes) {
            char kind = shape.charAt(0);
            String places = shape.length() > 2 ? shape.substring(2) : "";
            int[] low = {Integer.MIN_VALUE, Integer.MIN_VALUE, Integer.MIN_VALUE};
            int[] high = {Integer.MAX_VALUE, Integer.MAX_VALUE, Integer.MAX_VALUE};
            for (int i = 0; i < places.length(); i++) {
                low[i] = lowest(places.charAt(i));
                high[i] = highest(places.charAt(i));
            }
            ArcKeeper x = small();
            Tries.due("13 lowest " + shape, x.addLine(0, kind, low[0], low[1], low[2]), 0);
            Tries.due("13 highest " + shape, x.addLine(0, kind, high[0], high[1], high[2]), 1);
            for (int i = 0; i < places.length(); i++) {
                int[] below = low.clone();
                below[i]--;
                int[] above = high.clone();
                above[i]++;
                Tries.dueThrow("13 below " + shape, ARGUMENT, () -> x.addLine(0, kind, below[0], below[1], below[2]));
                Tries.dueThrow("13 above " + shape, ARGUMENT, () -> x.addLine(0, kind, above[0], above[1], above[2]));
            }
            Tries.due("14 lines " + shape, x.lines(0), 2);
        }
    }

    private static int lowest(char place) {
        return place == 'n' ? -999 : place == 't' || place == 'h' ? 1 : 0;
    }

    private static int highest(char place) {
        switch (place) {
            case 'v':
            case 't':
                return 5;
            case 'n':
                return 999;
            case 'h':
                return 9;
            case 'f':
                return 2;
            case 'g':
                return 1;
            default:
                return 0;
        }
    }

    private static void addLineLimits() {
        ArcKeeper x = small();
        for (char kind : new char[] {'a', 'M', 0, ' ', '.', 365, 65535}) {
            Tries.dueThrow("13 no kind", ARGUMENT, () -> x.addLine(0, kind, 0, 0, 0));
        }
        Tries.dueThrow("13 index first", INDEX, () -> x.addLine(2, 'a', 0, 0, 0));
        for (int i = 0; i < 24; i++) {
            Tries.due("13 number", x.addLine(1, 'z', 0, 0, 0), i);
        }
        Tries.dueThrow("13 full", STATE, () -> x.addLine(1, 'z', 0, 0, 0));
        Tries.dueThrow("13 argument first", ARGUMENT, () -> x.addLine(1, 'a', 0, 0, 0));
        Tries.due("14 full", x.lines(1), 24);
        Tries.due("14 the other", x.lines(0), 0);
        Tries.dueThrow("14 index", INDEX, () -> x.lines(2));
        Tries.dueThrow("14 below", INDEX, () -> x.lines(-1));
        Tries.dueThrow("13 begun", STATE, () -> begun().addLine(0, 'z', 0, 0, 0));
        ArcKeeper none = new ArcKeeper();
        none.addFunction(true);
        Tries.dueThrow("13 no kinds", ARGUMENT, () -> none.addLine(0, 'm', 0, 0, 0));
        Tries.dueThrow("13 no fields", ARGUMENT, () -> none.addLine(0, 'g', 0, 0, 0));
        Tries.dueThrow("13 no requirements", ARGUMENT, () -> none.addLine(0, 'q', 0, 0, 0));
        Tries.due("13 itself", none.addLine(0, 'k', 0, 0, 0), 0);
    }

    /** What checking finds in a function: a fault with its line, or a hyphen. */
    private static String fault(String text) {
        ArcKeeper x = small();
        Tries.write(x, 0, text);
        char fault = x.check(0);
        return fault + " " + Tries.outcome(() -> x.checkAt(0));
    }

    private static final String FINE = "- NoSuchElementException";

    private static void checkParts() {
        ArcKeeper x = small();
        Tries.due("15 no lines", x.check(0), '-');
        Tries.dueThrow("15 index", INDEX, () -> x.check(2));
        Tries.dueThrow("15 below", INDEX, () -> x.check(-1));
        Tries.dueThrow("16 index", INDEX, () -> x.checkAt(2));
        Tries.dueThrow("16 no fault", MISSING, () -> x.checkAt(1));
        Tries.due("15 all parts", fault("? 0; l 2; y 0; d; j; o; e 0 0; v 0; j; j; j; j; j"), FINE);
        Tries.due("15 j ends nothing", fault("n 0 1; j"), "b 1");
        Tries.due("15 o ends nothing", fault("o; j"), "b 0");
        Tries.due("15 o in another part", fault("y 0; ? 0; o; j; j"), "b 2");
        Tries.due("15 o behind o", fault("y 0; o; o; j"), "b 2");
        Tries.due("15 y without o", fault("y 0; n 0 0; j"), "b 2");
        Tries.due("16 one is missing", fault("l 1; n 0 0"), "b 2");
        Tries.due("16 behind the o one is missing", fault("y 0; o"), "b 2");
        Tries.due("16 the outer one is missing", fault("? 0; ? 0; j"), "b 3");
        Tries.due("16 the first fault", fault("j; d; z; j"), "b 0");
    }

    private static void checkPutOff() {
        Tries.due("15 what may be put off", fault("d; m 0 0; n 0 1; - 0; c 0 1; + 0 1 2; g 0 1 0; f 0 0 1; p 0; j"), FINE);
        for (String line : new String[] {"? 0", "l 1", "k 0 0 0", "q 0 0 0", "r 0", "h 1", "y 0", "d", "e 0 0", "v 0", "z"}) {
            Tries.due("15 put off " + line, fault("d; n 0 0; " + line + "; j"), "d 2");
        }
        Tries.due("15 o that ends no part comes first", fault("y 0; d; o; j"), "b 2");
        Tries.due("15 behind the end", fault("d; j; z"), FINE);
    }

    private static void checkAccess() {
        Tries.due("15 g", fault("e 0 0; g 1 0 0; j"), "s 1");
        Tries.due("15 g of itself", fault("e 0 0; g 0 0 0; j"), "s 1");
        Tries.due("15 f", fault("e 0 0; f 0 0 1; j"), "s 1");
        Tries.due("15 e", fault("e 0 0; e 0 0; j; j"), "s 1");
        Tries.due("15 another field", fault("e 0 0; g 1 0 1; f 0 1 1; e 0 2; j; j"), FINE);
        Tries.due("15 another variable", fault("e 0 0; g 0 1 0; f 1 0 0; j"), FINE);
        Tries.due("15 behind the part", fault("e 0 0; j; g 1 0 0"), FINE);
        Tries.due("15 deeper", fault("e 0 0; l 2; ? 0; g 1 0 0; j; j; j"), "s 3");
        Tries.due("15 in a part that is put off", fault("e 0 0; d; g 1 0 0; j; j"), "s 2");
        Tries.due("15 by the outer one", fault("e 0 0; e 1 0; g 2 0 0; j; j"), "s 2");
        for (String line : new String[] {"m 0 0", "n 0 1", "- 0", "c 0 1", "+ 0 1 1", "g 0 1 0", "k 0 0 1", "q 0 0 1"}) {
            Tries.due("15 set by " + line, fault("e 0 0; " + line + "; g 1 0 0; j"), FINE);
        }
        for (String line : new String[] {"c 1 0", "f 0 1 0", "p 0", "k 1 0 0", "z", "+ 1 0 0", "g 1 0 1"}) {
            Tries.due("15 not set by " + line, fault("e 0 0; " + line + "; g 1 0 0; j"), "s 2");
        }
        Tries.due("15 the setting line is within", fault("n 0 1; e 0 0; g 1 0 0; j"), "s 2");
        Tries.due("15 set by an error", fault("e 0 0; y 0; n 1 1; o; g 1 0 0; j; j"), FINE);
        Tries.due("15 not yet set", fault("e 0 0; y 0; g 1 0 0; o; j; j"), "s 2");
        Tries.due("15 d ahead of s", fault("e 0 0; d; e 0 0; j; j; j"), "d 2");
    }

    private static ArcKeeper withFunction(boolean isOwned, String text) {
        ArcKeeper x = new ArcKeeper();
        x.addKind(-1, true);
        x.addField(0, 's');
        x.addField(0, 'w');
        x.addField(0, 'u');
        x.addProtocol();
        x.addRequirement(0);
        Tries.function(x, isOwned, text);
        return x;
    }

    /** Where the six variables of a function are given up. */
    private static String lasts(String text) {
        ArcKeeper x = withFunction(true, text);
        StringBuilder lasts = new StringBuilder();
        for (int variable = 0; variable < 6; variable++) {
            lasts.append(variable == 0 ? "" : " ").append(x.lastLine(0, variable));
        }
        return lasts.toString();
    }

    private static void lastLine() {
        ArcKeeper x = withFunction(true, "n 0 1; j");
        Tries.dueThrow("17 fault", UNSUPPORTED, () -> x.lastLine(0, 0));
        Tries.dueThrow("17 argument first", ARGUMENT, () -> x.lastLine(0, 6));
        Tries.dueThrow("17 below", ARGUMENT, () -> x.lastLine(0, -1));
        Tries.dueThrow("17 index first", INDEX, () -> x.lastLine(1, 6));
        Tries.due("17 no lines", lasts(""), "-1 -1 -1 -1 -1 -1");
        Tries.due("17 each use", lasts("n 1 1; c 2 1; n 3 3; + 4 3 2"), "-1 1 3 3 3 -1");
        Tries.due("17 uses of all places", lasts("g 1 2 0; f 3 0 4; - 5"), "-1 0 0 1 1 2");
        Tries.due("17 numbers that are no variables", lasts("n 0 1; m 0 0; l 5; j; f 3 2 3"), "1 -1 -1 4 -1 -1");
        Tries.due("17 a return is no barrier", lasts("n 1 1; r 2; n 3 3"), "-1 0 1 2 -1 -1");
        for (String barrier : new String[] {"g 0 0 1", "g 0 0 2", "k 0 0 0", "q 0 0 0", "p 0", "h 1", "z"}) {
            Tries.due("17 " + barrier, lasts("n 1 1; " + barrier + "; n 2 1"), "1 1 2 1 1 1");
        }
        for (String barrier : new String[] {"v 0", "e 0 0", "d"}) {
            Tries.due("17 part " + barrier, lasts("n 1 1; " + barrier + "; j; n 2 1"), "2 2 3 2 2 2");
        }
        for (String fine : new String[] {"g 0 0 0", "f 0 1 0", "m 0 0", "c 0 0", "+ 0 0 0"}) {
            Tries.due("17 no barrier " + fine, lasts("n 1 1; " + fine + "; n 2 1"), "1 0 2 -1 -1 -1");
        }
    }

    private static void lastLineAndParts() {
        Tries.due("17 a part", lasts("l 2; n 1 1; ? 2; n 3 1; j; n 4 1; j; n 5 1"), "-1 6 6 6 6 7");
        Tries.due("17 a barrier in a part", lasts("? 0; l 2; p 0; j; j; n 1 1"), "4 5 4 4 4 4");
        Tries.due("17 a part that is tried", lasts("y 1; n 2 1; o; n 3 1; j; n 4 1"), "-1 4 4 4 5 -1");
        Tries.due("17 put off", lasts("d; n 1 1; c 2 3; j; n 1 2; n 4 1"), "3 6 6 6 5 3");
        Tries.due("17 put off within", lasts("? 0; d; p 1; j; j; n 1 2"), "4 6 4 4 4 4");
    }

    private static String moves(boolean isOwned, String text) {
        ArcKeeper x = withFunction(isOwned, text);
        StringBuilder moves = new StringBuilder();
        for (int line = 0; line < x.lines(0); line++) {
            moves.append(x.isMove(0, line) ? '1' : '0');
        }
        return moves.toString();
    }

    private static void isMove() {
        ArcKeeper x = withFunction(true, "n 0 1; j");
        Tries.dueThrow("18 fault", UNSUPPORTED, () -> x.isMove(0, 0));
        Tries.dueThrow("18 line", INDEX, () -> x.isMove(0, 2));
        Tries.dueThrow("18 below", INDEX, () -> x.isMove(0, -1));
        Tries.dueThrow("18 function", INDEX, () -> x.isMove(1, 0));
        Tries.due("18 c", moves(true, "m 1 0; c 2 1; c 3 2"), "011");
        Tries.due("18 used later", moves(true, "m 1 0; c 2 1; c 3 1"), "001");
        Tries.due("18 set later", moves(true, "m 1 0; c 2 1; n 1 1"), "000");
        Tries.due("18 twice", moves(true, "m 1 0; c 1 1"), "00");
        Tries.due("18 a barrier behind", moves(true, "m 1 0; c 2 1; p 2"), "000");
        Tries.due("18 a parameter", moves(true, "c 1 0"), "1");
        Tries.due("18 one that is not owned", moves(false, "c 1 0; n 0 1; c 2 1"), "001");
        Tries.due("18 nor when set anew", moves(false, "n 0 1; c 1 0; r 0"), "000");
        Tries.due("18 f", moves(true, "m 1 0; f 0 0 1"), "01");
        Tries.due("18 f of itself", moves(true, "m 1 0; f 1 0 1"), "00");
        Tries.due("18 f of a weak one", moves(true, "m 1 0; f 0 1 1; m 2 0; f 0 2 2"), "0000");
        Tries.due("18 f of one that is not owned", moves(false, "m 1 0; f 1 0 0"), "00");
        Tries.due("18 f takes from v, not w", moves(true, "m 1 0; f 0 0 1; f 1 0 0"), "001");
        Tries.due("18 g never", moves(true, "g 1 0 0"), "0");
        Tries.due("18 r", moves(true, "m 1 0; r 1; p 1"), "010");
        Tries.due("18 r of a parameter", moves(true, "r 0"), "1");
        Tries.due("18 r of one that is not owned", moves(false, "r 0"), "0");
        Tries.due("18 within a part", moves(true, "l 2; c 2 1; j; ? 3; r 3; j; ? 3; f 0 0 4; j"), "000000000");
        Tries.due("18 r with a part put off", moves(true, "d; j; r 1"), "000");
        Tries.due("18 r with one put off within", moves(true, "? 0; d; j; j; r 1"), "00000");
        Tries.due("18 c behind one put off", moves(true, "d; p 1; j; c 2 1; c 4 3"), "00001");
    }

    private static void moveShare() {
        ArcKeeper x = withFunction(true, "m 1 0; c 2 1; r 2");
        Tries.due("41 share", x.moveShare(0), 2f / 3f);
        Tries.dueThrow("41 index", INDEX, () -> x.moveShare(1));
        Tries.dueThrow("41 no lines", ArithmeticException.class, () -> withFunction(true, "").moveShare(0));
        Tries.dueThrow("41 fault", UNSUPPORTED, () -> withFunction(true, "j").moveShare(0));
        Tries.due("41 none", withFunction(true, "z").moveShare(0), 0f);
        Tries.due("41 all", withFunction(true, "r 0").moveShare(0), 1f);
    }
}
