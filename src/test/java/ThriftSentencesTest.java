/** What 'Terms' says of the thrifty way while tasks run: each sentence on its own. */
public final class ThriftSentencesTest {
    private ThriftSentencesTest() {}

    public static void main(String[] args) {
        Tries.runAll(ThriftSentencesTest.class);
    }

    /** The objects that are alive as a task begins and behind each of its steps. */
    private static String lives(boolean isThrifty, int kind, String... functions) {
        ArcKeeper x = Worlds.world(functions);
        x.begin(0, kind, isThrifty);
        StringBuilder lives = new StringBuilder().append(x.alive());
        for (int step = 0; step < 60 && x.state(0) == 'r'; step++) {
            x.step(0, 1);
            lives.append(' ').append(x.alive());
        }
        Tries.due("43 sound", x.isSound(), true);
        return lives.toString();
    }

    private static String thrifty(int kind, String... functions) {
        return lives(true, kind, functions);
    }

    private static String died(boolean isThrifty, String... functions) {
        ArcKeeper x = Worlds.world(functions);
        Worlds.ended(x, x.begin(0, -1, isThrifty));
        return Tries.died(x);
    }

    @Says(promise = 0, words = "as the function begins, if there is no such part,")
    static void thriftAsTheFunctionBegins() {
        Tries.due("an owned parameter", thrifty(0, "owned n 1 1; n 2 2"), "0 0 0");
        Tries.due("in the plain way", lives(false, 0, "owned n 1 1; n 2 2"), "1 1 0");
        Tries.due("one that is used", thrifty(0, "owned n 1 1; - 0; n 2 2"), "1 1 0 0");
        Tries.due("one that is not owned", thrifty(0, "n 1 1; n 2 2"), "1 1 0");
        Tries.due("a barrier as the last line", thrifty(0, "owned n 1 1; p 1"), "1 1 0");
        Tries.due("no lines", thrifty(0, "owned"), "0");
        ArcKeeper x = Worlds.world("m 1 0; k 2 1 1; z", "owned n 1 1; z");
        x.begin(0, -1, true);
        x.step(0, 2);
        Tries.due("in a call, of which a barrier keeps it", Worlds.owned(x, 0) + " " + x.depth(0), "2 2 2");
        ArcKeeper y = Worlds.world("m 1 0; k 2 1 1; z", "owned n 1 1; n 1 1");
        y.begin(0, -1, true);
        y.step(0, 2);
        Tries.due("in the step of the call", Worlds.owned(y, 0) + " " + y.depth(0) + " " + Worlds.counts(y), "1 1 2 1 1");
    }

    @Says(promise = 0, words = {"Behind the last part that uses a variable, in any way, or is a barrier, the variable is given up "
        + "and none from then on;", "and behind a part only when the function goes on there,"})
    static void thriftBehindTheLastUse() {
        Tries.due("the line that sets it", thrifty(-1, "m 1 0; n 2 2; n 3 3"), "0 0 0 0");
        Tries.due("a later line", thrifty(-1, "m 1 0; n 2 2; c 3 1; n 3 3"), "0 1 1 1 0");
        Tries.due("a value that goes on to be used", thrifty(-1, "m 1 0; c 2 1; + 3 3 3"), "0 1 0 0");
        Tries.due("the last line", thrifty(-1, "m 1 0; n 2 2; - 1"), "0 1 1 0");
        Tries.due("a loop", thrifty(-1, "m 1 0; l 2; c 2 1; j; n 3 3"), "0 1 1 1 1 1 0 0");
        Tries.due("within a loop", thrifty(-1, "l 2; m 1 0; n 2 2; j; n 3 3"), "0 0 1 1 1 1 1 0 0");
        Tries.due("a part that is done", thrifty(-1, "m 1 0; ? 1; n 2 2; j; n 3 3"), "0 1 1 1 0 0");
        Tries.due("a part that is not done", thrifty(-1, "m 1 0; ? 2; c 3 1; j; n 3 3"), "0 1 0 0");
        Tries.due("parts within parts", thrifty(-1, "m 1 0; l 1; ? 1; j; n 2 2; j; n 3 3"), "0 1 1 1 1 1 0 0");
        Tries.due("a part that is tried", thrifty(-1, "m 1 0; y 2; c 3 1; o; n 3 3; j; n 4 4"), "0 1 1 1 0 0");
        Tries.due("a barrier", thrifty(-1, "m 1 0; p 2; n 3 3"), "0 1 0 0");
        Tries.due("the last one of two barriers", thrifty(-1, "m 1 0; p 2; n 3 3; p 3; n 4 4"), "0 1 1 1 0 0");
        Tries.due("a call", thrifty(-1, "m 1 0; k 2 1 1; n 3 3", "z; n 1 1"), "0 1 1 1 0 0");
        Tries.due("each function its own", thrifty(-1, "m 1 0; k 2 1 3; n 3 3", "m 1 1; n 2 2; m 3 2; n 1 1"), "0 1 1 2 2 2 0 0");
        Tries.due("the plain way", lives(false, -1, "m 1 0; n 2 2; c 3 1; n 3 3"), "0 1 1 1 0");
    }

    @Says(promise = 0, words = "and behind a part only when the function goes on there,")
    static void thriftOnlyWhenItGoesOn() {
        Tries.due("left by an r", died(true, "m 1 1; m 2 2; ? 1; - 3; r 3; j; c 4 2; c 5 1"), "12 11 10");
        Tries.due("left by an r that is a part for itself", died(true, "m 1 1; m 2 2; c 4 2; r 3; c 5 1"), "12 11 10");
        Tries.due("left by an error", died(true, "m 1 1; m 2 2; l 1; + 3 3 3; j; h 1"), "");
        Tries.due("left by an error from a line of its own", died(true, "m 1 1; m 2 2; h 1"), "12 11 10");
        Tries.due("an error that is handled in the part", thrifty(-1, "m 1 0; y 2; h 1; o; n 3 3; j; n 4 4"), "0 1 1 1 1 0 0");
        Tries.due("trapped", thrifty(-1, "m 1 0; + 3 1 1"), "0 1 1");
    }

    @Says(promise = 0, words = "several ones by rising numbers;")
    static void thriftByRisingNumbers() {
        String make = "m 1 0; m 2 1; m 3 2; m 4 1; m 5 2; ";
        Tries.due("behind a barrier", died(true, make + "p 0; n 0 1"), "10 11 10 12 11 10 12");
        Tries.due("at the end", died(true, make + "p 0"), "10 11 10 12 11 10 12");
        Tries.due("in the plain way", died(false, make + "p 0"), "12 11 10 12 11 10 10");
        Tries.due("behind a part", died(true, make + "l 1; - 0; ? 5; c 0 4; j; c 0 3; c 0 2; c 0 1; j; n 1 1"), "11 10 12 11 10 12 10");
        Tries.due("in the plain way", died(false, "m 1 2; m 2 1; p 1"), "11 10 12");
        Tries.due("in the thrifty way", died(true, "m 1 2; m 2 1; p 1"), "12 11 10");
    }

    @Says(promise = 0, words = "which it also does at its end, ahead of returning.")
    static void thriftAtTheEnd() {
        Tries.due("ahead of what is put off", died(true, "d; m 3 1; - 3; j; m 1 2"), "12 11 10");
        Tries.due("in the plain way", died(false, "d; m 3 1; - 3; j; m 1 2"), "11 10 12");
        Tries.due("a part as the end", died(true, "d; m 3 1; - 3; j; l 2; m 1 2; j"), "12 12 11 10");
        Tries.due("in a call", died(true, "k 4 1 5; m 2 2", "d; m 3 1; - 3; j; m 1 0"), "10 11 10 12");
        Tries.due("in the step of the last line", thrifty(-1, "m 1 0; k 2 1 1", "d; p 3; j; m 4 0; m 5 1"), "0 1 1 1 1 0");
    }

    @Says(promise = 0, words = "A variable that a part that is put off uses is not given up so.")
    static void thriftWhatIsPutOffUses() {
        Tries.due("used", thrifty(-1, "m 1 0; d; p 1; j; n 2 2; n 3 3"), "0 1 1 1 0");
        Tries.due("printed", thriftyPrints("m 1 0; d; p 1; j; n 2 2; n 3 3"), "10000");
        Tries.due("not used", thrifty(-1, "m 1 0; d; p 2; j; n 2 2; n 3 3"), "0 1 0 0 0");
        Tries.due("put off in a part that is not done", thrifty(-1, "m 1 0; ? 2; d; p 1; j; j; n 2 2; n 3 3"), "0 1 1 1 0");
        Tries.due("the parameter", thrifty(0, "owned d; p 0; j; n 2 2; n 3 3"), "1 1 1 0");
        Tries.due("one that a line behind it gives a value", thrifty(-1, "d; p 1; j; m 1 0; n 2 2; n 3 3"), "0 0 1 1 0");
    }

    private static String thriftyPrints(String... functions) {
        ArcKeeper x = Worlds.world(functions);
        Worlds.ended(x, x.begin(0, -1, true));
        return Tries.printed(x);
    }

    @Says(promise = 0, words = {"a 'c', or an 'f' of a strong field, moves the value,",
        "this variable is none then, and no count changes by that."})
    static void thriftMoves() {
        ArcKeeper x = Worlds.world("m 1 1; c 2 1; m 3 0; f 3 0 2; c 4 3; z", "m 1 1; c 2 1; m 3 0; f 3 0 2; c 4 3; r 4");
        x.begin(1, -1, true);
        x.step(0, 2);
        Tries.due("a c", Worlds.owned(x, 0) + " " + Worlds.counts(x), "1 1 0 0");
        x.step(0, 2);
        Tries.due("an f", Worlds.owned(x, 0) + " " + Worlds.owned(x, 1) + " " + Worlds.counts(x), "1 1 1 1 0 0");
        x.step(0, 2);
        Tries.due("an r", Worlds.owned(x, 0) + " " + Worlds.owned(x, 1) + " " + Worlds.counts(x) + " " + x.result(0), "1 1 1 1 0 0 10000");
        x.begin(0, -1, true);
        x.step(1, 5);
        Tries.due("ahead of a barrier nothing moves", Worlds.counts(x), "3 0");
        x.begin(1, -1, false);
        x.step(2, 5);
        Tries.due("in the plain way nothing moves", Worlds.counts(x), "6 0");
        ArcKeeper y = Worlds.world("m 1 1; m 2 2; c 2 1; r 2");
        y.begin(0, -1, true);
        y.step(0, 3);
        Tries.due("the value before is given up", Tries.died(y) + " " + Worlds.owned(y, 0) + " " + Worlds.counts(y), "12 1 1 0 1");
        ArcKeeper z = Worlds.world("m 1 0; m 2 2; f 1 0 2; m 2 1; f 1 0 2; r 1");
        z.begin(0, -1, true);
        z.step(0, 5);
        Tries.due("that of the field, too", Tries.died(z) + " " + Worlds.owned(z, 2) + " " + Worlds.counts(z), "12 1 1 1 2");
        ArcKeeper w = Worlds.world("n 1 5; c 2 1; c 3 2; r 3");
        w.begin(0, -1, true);
        Tries.due("a number", Worlds.ended(w, 0), "d 5 in 4");
        ArcKeeper v = Worlds.world("m 1 0; n 2 5; f 1 0 2; g 3 1 0; r 3");
        v.begin(0, -1, true);
        Tries.due("a number into a field", Worlds.ended(v, 0), "d 5 in 5");
    }

    @Says(promise = 0, words = "and is not a parameter that the function does not own:")
    static void thriftParametersThatAreNotOwned() {
        ArcKeeper x = Worlds.world("c 1 0; r 1", "m 1 0; f 1 0 0; r 1", "r 0", "n 0 1; c 1 0; m 0 0; r 0");
        x.begin(0, 1, true);
        x.step(0, 1);
        Tries.due("a c keeps it", Worlds.owned(x, 0) + " " + Worlds.counts(x), "2 2 1 0");
        x.step(0, 1);
        Tries.due("the task gives its own up", Worlds.owned(x, 0) + " " + Worlds.counts(x), "1 1 1 1");
        x.begin(1, 1, true);
        x.step(1, 2);
        Tries.due("an f keeps it", Worlds.owned(x, 1) + " " + Worlds.counts(x), "2 2 2 1");
        x.begin(2, 1, true);
        x.step(2, 1);
        Tries.due("an r keeps it", Worlds.owned(x, 3) + " " + Worlds.counts(x), "1 1 3 2");
        x.begin(3, -1, true);
        x.step(3, 4);
        Tries.due("nor when it was set anew", Worlds.owned(x, 4) + " " + Worlds.counts(x), "1 1 4 3");
    }

    @Says(promise = 0, words = "and no part of the function is put off.")
    static void thriftReturnsBesidePartsPutOff() {
        ArcKeeper x = Worlds.world("m 1 0; d; p 1; j; r 1", "m 1 0; ? 2; d; j; j; r 1", "m 1 0; r 1");
        x.begin(0, -1, true);
        x.step(0, 3);
        Tries.due("the part sees the value", Tries.printed(x) + " " + Worlds.owned(x, 0) + " " + Worlds.counts(x), "10000 1 1 1 1");
        x.begin(1, -1, true);
        x.step(1, 3);
        Tries.due("though it is not done", Worlds.owned(x, 1) + " " + Worlds.counts(x), "1 1 2 2");
        x.begin(2, -1, true);
        x.step(2, 2);
        Tries.due("none", Worlds.owned(x, 2) + " " + Worlds.counts(x), "1 1 2 2");
    }
}
