/** What 'Terms' says of kinds, values, variables and lines: each sentence on its own. */
public final class LinesSentencesTest {
    private LinesSentencesTest() {}

    public static void main(String[] args) {
        Tries.runAll(LinesSentencesTest.class);
    }

    // ---- kinds

    @Says(promise = 0, words = {"At most 8 kinds are numbered from 0;", "a kind has the fields that were added to it "
        + "and those of its parent, of the parent of this, and so on;"})
    static void kindsHaveTheFieldsAbove() {
        ArcKeeper x = new ArcKeeper();
        for (int kind = 0; kind < 8; kind++) {
            x.addKind(kind - 1, false);
        }
        for (int kind = 0; kind < 8; kind++) {
            x.addField(7 - kind, 's');
        }
        Tries.function(x, false, "g 1 0 0; g 1 0 1; g 1 0 2; g 1 0 3; g 1 0 4; g 1 0 5; g 1 0 6; g 1 0 7");
        Tries.function(x, false, "g 1 0 7; g 1 0 6; g 1 0 5; g 1 0 4; g 1 0 3; g 1 0 2; g 1 0 1; g 1 0 0");
        Tries.due("the lowest kind has all", Worlds.ended(x, x.begin(0, 7, false)), "d -10000 in 8");
        Tries.due("the highest kind has none of those below", Worlds.ended(x, x.begin(0, 0, false)), "t f at 0 in 1");
        Tries.due("but its own", Worlds.ended(x, x.begin(1, 0, false)), "t f at 1 in 2");
        Tries.due("one between has those above", Worlds.ended(x, x.begin(1, 4, false)), "t f at 5 in 6");
    }

    @Says(promise = 0, words = "a kind has the fields that were added to it and those of its parent,")
    static void kindsHaveNoFieldsOfOthers() {
        ArcKeeper x = new ArcKeeper();
        x.addKind(-1, false);
        x.addKind(0, false);
        x.addKind(0, false);
        x.addField(1, 's');
        x.addField(0, 's');
        Tries.function(x, false, "g 1 0 1; g 1 0 0");
        Tries.due("added to the parent later", Worlds.ended(x, x.begin(0, 1, false)), "d -10000 in 2");
        Tries.due("not those of a kind beside it", Worlds.ended(x, x.begin(0, 2, false)), "t f at 1 in 2");
        Tries.due("nor of one below", Worlds.ended(x, x.begin(0, 0, false)), "t f at 1 in 2");
    }

    @Says(promise = 0, words = "fields are numbered from 0 over all kinds, at most 12.")
    static void fieldsAreTwelve() {
        ArcKeeper x = new ArcKeeper();
        for (int kind = 0; kind < 8; kind++) {
            x.addKind(kind - 1, false);
        }
        for (int field = 0; field < 12; field++) {
            Tries.due("number", x.addField(field * 5 % 8, 's'), field);
        }
        StringBuilder set = new StringBuilder();
        StringBuilder get = new StringBuilder();
        for (int field = 0; field < 12; field++) {
            set.append("n 1 ").append(field * 7).append("; f 0 ").append(field).append(" 1; ");
            get.append("g 1 0 ").append(field).append("; p 1; ");
        }
        Worlds.addAll(x, "k 2 1 0; k 2 2 0", set.toString().trim(), get.toString().trim());
        x.begin(0, 7, false);
        Tries.due("run", Worlds.ended(x, 0), "d -10000 in 50");
        Tries.due("each field has a value of its own", Tries.printed(x), "0 7 14 21 28 35 42 49 56 63 70 77");
    }

    // ---- values and variables

    @Says(promise = 0, words = "Values and variables. A value is none, a number or an object.")
    static void valuesAreThree() {
        Tries.due("printed", Worlds.prints(2, "p 1; p 0; n 1 0; p 1"), "-10000 10002 0");
        Tries.due("a number is not none", Worlds.prints(-1, "n 1 0; ? 1; p 1; j; ? 2; p 2; j"), "0");
        Tries.due("an object is no number", Worlds.run(2, "n 1 1; + 1 1 0"), "t t at 1 in 2");
        Tries.due("a number is no object", Worlds.run(2, "n 0 0; g 1 0 0"), "t n at 1 in 2");
    }

    @Says(promise = 0, words = "A function has the variables 0 to 5; the variable 0 is its parameter, "
        + "the others are none when it begins.")
    static void variablesAsAFunctionBegins() {
        String all = "p 0; p 1; p 2; p 3; p 4; p 5; n 0 1; n 1 1; n 2 2; n 3 3; n 4 4; n 5 5";
        Tries.due("the first function", Worlds.prints(2, all), "10002 -10000 -10000 -10000 -10000 -10000");
        Tries.due("without a parameter", Worlds.prints(-1, all), "-10000 -10000 -10000 -10000 -10000 -10000");
        Tries.due("called twice", Worlds.prints(-1, "n 0 1; n 1 7; n 2 8; n 3 3; k 0 1 1; k 0 1 2", all),
                "7 -10000 -10000 -10000 -10000 -10000 8 -10000 -10000 -10000 -10000 -10000");
        Tries.due("six of them", Worlds.prints(-1, "n 0 10; n 1 11; n 2 12; n 3 13; n 4 14; n 5 15; p 5; p 4; p 3; p 2; p 1; p 0"),
                "15 14 13 12 11 10");
        Tries.due("a call leaves those of its caller", Worlds.prints(-1, "n 1 11; n 2 12; k 3 1 1; p 1; p 2; p 3", "n 1 5; n 2 6; n 3 7"),
                "11 12 -10000");
    }

    @Says(promise = 0, words = {"A variable owns the object that is its value,", "To own keeps the count of an object 1 higher."})
    static void variablesOwn() {
        for (int variable = 1; variable < 6; variable++) {
            ArcKeeper x = Worlds.begun(0, 1, "c " + variable + " 0; z; - " + variable + "; z");
            Tries.due("one more", Worlds.owned(x, 0), "2 2");
            x.step(0, 2);
            Tries.due("one less", Worlds.owned(x, 0), "1 1");
        }
    }

    @Says(promise = 0, words = "but for a parameter that the function does not own, as long as it was not set anew.")
    static void variablesThatDoNotOwn() {
        ArcKeeper x = Worlds.begun(0, 1, "z; n 0 1; m 0 2; - 0; z");
        Tries.due("the task owns it", Worlds.owned(x, 0) + " " + Worlds.counts(x), "1 1 0 0");
        x.step(0, 1);
        Tries.due("set anew, the task owns it still", Worlds.owned(x, 0) + " " + Worlds.counts(x), "1 1 0 0");
        x.step(0, 1);
        Tries.due("it owns what it was set to", Worlds.owned(x, 1) + " " + Worlds.counts(x), "1 1 0 0");
        x.step(0, 1);
        Tries.due("and gives that up", x.isAlive(0) + " " + x.isAlive(1) + " " + Worlds.counts(x), "true false 0 1");
        ArcKeeper y = Worlds.begun(0, 1, "c 0 0; z; - 0; z; z");
        Tries.due("set to the same object", Worlds.owned(y, 0) + " " + Worlds.counts(y), "2 2 1 0");
        y.step(0, 2);
        Tries.due("and given up", Worlds.owned(y, 0) + " " + Worlds.counts(y), "1 1 1 1");
        ArcKeeper z = Worlds.begun(-1, 2, "m 1 0; k 2 1 1; z", "z; c 0 0; z");
        Tries.due("of a call", Worlds.owned(z, 0), "1 1");
        z.step(0, 2);
        Tries.due("of a call, set to the same object", Worlds.owned(z, 0), "2 2");
        z.step(0, 2);
        Tries.due("behind the call", Worlds.owned(z, 0) + " " + z.depth(0), "1 1 1");
    }

    // ---- lines

    @Says(promise = 0, words = "Lines. The kinds of lines, with their numbers: 'm' v k, the variable v becomes a new "
        + "object of the kind k, whose fields are none;")
    static void lineM() {
        for (int kind = 0; kind < 3; kind++) {
            Tries.due("its kind", Worlds.prints(-1, "m 3 " + kind + "; p 3"), "" + (10000 + kind));
        }
        Tries.due("its fields", Worlds.prints(-1, "m 3 1; g 1 3 0; p 1; g 1 3 1; p 1; g 1 3 2; p 1; g 1 3 3; p 1"),
                "-10000 -10000 -10000 -10000");
        ArcKeeper x = Worlds.begun(-1, 3, "m 1 0; m 1 0; m 2 0; z");
        Tries.due("a new one each time", x.made() + " " + x.isAlive(0) + " " + x.isAlive(1) + " " + x.isAlive(2), "3 false true true");
    }

    @Says(promise = 0, words = {"'n' v n, it becomes the number n,", "'-' v, it becomes none;", "'c' v w, it becomes the value of w;"})
    static void linesThatSet() {
        Tries.due("n", Worlds.prints(0, "n 0 -999; p 0; n 0 999; p 0; n 5 0; p 5; p 4"), "-999 999 0 -10000");
        Tries.due("-", Worlds.prints(0, "- 0; p 0; n 5 3; - 5; p 5; - 4; p 4"), "-10000 -10000 -10000");
        Tries.due("c", Worlds.prints(2, "c 1 0; p 1; p 0; n 2 7; c 1 2; p 1; p 2; c 1 3; p 1; p 3"),
                "10002 10002 7 7 -10000 -10000");
        ArcKeeper x = Worlds.begun(-1, 3, "m 1 0; m 2 2; c 2 1; z");
        Tries.due("c is the same object", x.countOf(0) + " " + x.countOf(1), "2 0");
    }

    /** Lines that set a variable to a number that need not fit into one 'n'; the variable 5 is used. */
    private static String number(int variable, int number) {
        String twice = "; + " + variable + " " + variable + " " + variable;
        return "n " + variable + " " + number / 10 + twice + "; c 5 " + variable + twice + twice + "; + " + variable + " "
                + variable + " 5; n 5 " + number % 10 + "; + " + variable + " " + variable + " 5";
    }

    @Says(promise = 0, words = "'+' v w x, the sum of w and x, of which the remainder is taken when divided by 10000, "
        + "with the sign of the sum;")
    static void lineSum() {
        int[] numbers = {-9999, -9998, -5001, -5000, -4999, -1, 0, 1, 4999, 5000, 5001, 9998, 9999};
        for (int w : numbers) {
            for (int x : numbers) {
                Tries.due(w + " + " + x, Worlds.run(-1, number(1, w) + "; " + number(2, x) + "; + 3 1 2; r 3"),
                        "d " + (w + x) % 10000 + " in 18");
            }
        }
        Tries.due("of one with itself", Worlds.run(-1, number(1, -5001) + "; + 1 1 1; r 1"), "d -2 in 10");
        Tries.due("into a part of it", Worlds.run(-1, "n 1 2; n 2 3; + 1 1 2; + 2 1 2; r 2"), "d 8 in 5");
    }

    @Says(promise = 0, words = "'g' v w f, the value of the field f of the object w, for a weak one none if the object "
        + "there is not alive any more;")
    static void lineG() {
        String set = "m 1 2; f 0 0 1; f 0 1 1; f 0 2 1; n 2 5; f 0 3 2; ";
        for (int field = 0; field < 4; field++) {
            Tries.due("field " + field, Worlds.prints(1, set + "g 3 0 " + field + "; p 3"), field == 3 ? "5" : "10002");
        }
        Tries.due("a weak one of what is not alive", Worlds.prints(1, "m 1 2; f 0 1 1; - 1; g 3 0 1; p 3"), "-10000");
        Tries.due("a weak one of what is owned by another", Worlds.prints(1, "m 1 2; c 2 1; f 0 1 1; - 1; g 3 0 1; p 3"), "10002");
        Tries.due("a strong one keeps it", Worlds.prints(1, "m 1 2; f 0 0 1; f 0 1 1; - 1; g 3 0 1; p 3"), "10002");
        Tries.due("an unowned one of what is alive", Worlds.prints(1, "m 1 2; f 0 2 1; g 3 0 2; p 3"), "10002");
        ArcKeeper x = Worlds.begun(1, 4, "m 1 0; f 0 0 1; - 1; g 0 0 0; z");
        Tries.due("into the variable of the object", Worlds.owned(x, 1) + " " + x.isAlive(0), "2 2 true");
        ArcKeeper y = Worlds.begun(-1, 5, "m 1 0; m 2 2; f 1 0 2; - 2; g 1 1 0; z");
        Tries.due("taken ahead of the death of the object", Worlds.owned(y, 1) + " " + y.isAlive(0), "1 1 false");
    }

    @Says(promise = 0, words = {"'f' w f v, the field f of the object w becomes the value of v;",
        "Fields hold objects or none, and numbers if they are strong."})
    static void lineF() {
        Tries.due("a number", Worlds.prints(1, "n 1 -5; f 0 0 1; g 2 0 0; p 2; g 2 0 3; p 2"), "-5 -10000");
        Tries.due("none in each", Worlds.prints(1, "f 0 0 5; f 0 1 5; f 0 2 5; f 0 3 5; g 2 0 0; p 2; g 2 0 1; p 2; g 2 0 2; p 2"),
                "-10000 -10000 -10000");
        Tries.due("an object in each", Worlds.prints(1, "f 0 1 0; f 0 2 0; g 2 0 1; p 2; g 2 0 2; p 2; f 0 0 2; g 2 0 0; p 2"),
                "10001 10001 10001");
        Tries.due("none in place of an object", Worlds.prints(1, "m 1 2; f 0 0 1; f 0 1 1; f 0 2 1; - 1; f 0 0 1; f 0 1 1; f 0 2 1; g 2 0 2; p 2"),
                "-10000");
        Tries.due("a number in a weak field", Worlds.run(1, "n 1 0; f 0 1 1"), "t t at 1 in 2");
        Tries.due("a number in an unowned field", Worlds.run(1, "n 1 0; f 0 2 1"), "t t at 1 in 2");
        Tries.due("of each object its own", Worlds.prints(-1, "m 1 0; m 2 0; n 3 1; f 1 0 3; n 3 2; f 2 0 3; g 4 1 0; p 4; g 4 2 0; p 4"), "1 2");
        ArcKeeper x = Worlds.begun(-1, 4, "m 1 0; m 2 2; f 1 0 2; - 2; n 3 1; f 1 0 3; z");
        Tries.due("a field owns", Worlds.owned(x, 1), "1 1");
        x.step(0, 2);
        Tries.due("until it is set anew", x.isAlive(1), false);
    }

    @Says(promise = 0, words = "'p' v, v is printed;")
    static void lineP() {
        Tries.due("each variable", Worlds.prints(2, "n 1 1; n 2 2; n 3 3; n 4 4; n 5 5; p 5; p 4; p 3; p 2; p 1; p 0"), "5 4 3 2 1 10002");
        ArcKeeper x = Worlds.begun(2, 2, "p 0; p 0; z");
        Tries.due("nothing is owned by that", Worlds.owned(x, 0), "1 1");
    }

    @Says(promise = 0, words = "'?' v, the part up to its end is done if v is not none;")
    static void lineIf() {
        Tries.due("none", Worlds.run(-1, "? 1; n 2 5; j; r 2"), "d -10000 in 2");
        Tries.due("the number 0", Worlds.run(-1, "n 1 0; ? 1; n 2 5; j; r 2"), "d 5 in 5");
        Tries.due("a number below", Worlds.run(-1, "n 1 -1; ? 1; n 2 5; j; r 2"), "d 5 in 5");
        Tries.due("an object", Worlds.run(2, "? 0; n 2 5; j; r 2"), "d 5 in 4");
        Tries.due("an empty part", Worlds.run(2, "? 0; j; r 2"), "d -10000 in 3");
        Tries.due("an empty part that is not done", Worlds.run(2, "? 1; j; r 2"), "d -10000 in 2");
        Tries.due("with parts within", Worlds.run(-1, "? 1; l 2; ? 1; j; j; n 2 5; j; r 2"), "d -10000 in 2");
        Tries.due("set in the part", Worlds.run(2, "? 0; - 0; n 2 5; j; r 2"), "d 5 in 5");
    }

    @Says(promise = 0, words = {"'l' n, the part up to its end is done n times,",
        "The end of a loop goes back to the line behind its 'l', if it was not done as often as told; all other ends go on."})
    static void lineLoop() {
        for (int times = 1; times <= 5; times++) {
            Tries.due("times " + times, Worlds.run(-1, "n 1 0; n 2 1; l " + times + "; + 1 1 2; j; r 1"),
                    "d " + times + " in " + (2 + 1 + 2 * times + 1));
            Tries.due("empty, times " + times, Worlds.run(-1, "l " + times + "; j"), "d -10000 in " + (1 + times));
            for (int within = 1; within <= 5; within++) {
                Tries.due("loops in loops", Worlds.run(-1, "n 1 0; n 2 1; l " + times + "; l " + within + "; + 1 1 2; j; j; r 1"),
                        "d " + times * within + " in " + (4 + times * (2 + 2 * within)));
            }
        }
        Tries.due("left by a return and done anew", Worlds.prints(-1, "l 2; k 2 1 1; j", "l 3; p 0; r 0; j"), "-10000 -10000");
        Tries.due("left by an error and done anew", Worlds.prints(-1, "n 1 7; l 2; y 2; l 5; p 1; h 1; j; o; j; j"), "7 7");
        Tries.due("another end in it", Worlds.prints(-1, "n 1 7; l 2; ? 1; p 1; j; y 2; o; j; j"), "7 7");
        Tries.due("a loop in another part", Worlds.prints(0, "n 1 7; v 0; e 0 0; ? 1; l 3; p 1; j; j; j; j"), "7 7 7");
        Tries.due("a loop in a loop, each time anew", Worlds.prints(-1, "n 1 7; l 2; l 2; p 1; j; p 2; j"), "7 7 -10000 7 7 -10000");
    }

    @Says(promise = 0, words = {"'k' v g w, v becomes what the function g returns, with the value of w as its parameter;",
        "'r' v, the function returns the value of v;"})
    static void lineCall() {
        Tries.due("a number", Worlds.prints(-1, "n 1 5; k 2 1 1; p 2; p 1", "+ 0 0 0; r 0; p 0"), "10 5");
        Tries.due("none", Worlds.prints(-1, "n 2 5; k 2 1 1; p 2", "r 0"), "-10000");
        Tries.due("an object", Worlds.prints(2, "k 2 1 0; p 2", "r 0"), "10002");
        Tries.due("no return", Worlds.prints(-1, "n 2 5; k 2 1 2; p 2", "n 0 1"), "-10000");
        Tries.due("no lines", Worlds.prints(-1, "n 2 5; k 2 1 2; p 2", ""), "-10000");
        Tries.due("the function of that number", Worlds.prints(-1, "k 2 3 1; p 2", "n 1 1; r 1", "n 1 2; r 1", "n 1 3; r 1"), "3");
        Tries.due("itself", Worlds.prints(0, "p 0; ? 0; k 1 0 2; j"), "10000 -10000");
        Tries.due("from within parts", Worlds.prints(-1, "l 2; ? 1; j; k 1 1 1; p 1; j", "l 5; ? 0; + 0 0 0; r 0; j; n 0 1; j; r 0"), "2 4");
        Tries.due("the lines behind an r", Worlds.prints(-1, "n 1 1; r 1; p 1"), "");
        Tries.due("the variable of its own parameter", Worlds.prints(-1, "n 1 4; k 1 1 1; p 1", "+ 0 0 0; r 0"), "8");
    }

    @Says(promise = 0, words = "'q' v r w, likewise, by the function by which the kind of the object w meets the requirement r;")
    static void lineWitness() {
        ArcKeeper x = Worlds.world();
        x.addRequirement(0);
        Worlds.addAll(x, "m 1 0; q 2 0 1; p 2; m 1 1; q 2 0 1; p 2; q 2 1 1; p 2; m 1 2; q 2 1 1; p 2", "n 1 1; r 1",
                "n 1 2; r 1", "owned r 0");
        x.conform(0, 0, -1);
        x.conform(1, 0, -1);
        x.setDefault(0, 1);
        x.setWitness(1, 0, 2);
        x.setDefault(1, 3);
        x.begin(0, -1, false);
        Tries.due("up to what is not met", Worlds.ended(x, 0), "t p at 9 in 15");
        Tries.due("by default, by the kind itself, with its parameter", Tries.printed(x), "1 2 10001");
        Tries.due("the object is the parameter that is owned", Worlds.counts(x), "2 3");
        ArcKeeper z = Worlds.world();
        z.addRequirement(0);
        Worlds.addAll(z, "k 2 1 0; p 2", "n 1 1; p 1; r 1", "n 1 2; p 1; r 1");
        z.conform(0, 0, -1);
        z.setDefault(1, 2);
        z.begin(0, 0, false);
        Tries.due("a k of the number of a requirement", Worlds.ended(z, 0) + " " + Tries.printed(z), "d -10000 in 5 1 1");
    }
}
