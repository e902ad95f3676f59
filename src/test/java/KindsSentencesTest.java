/** Promises 1 to 11: each sentence on its own, with the last value that is taken and the first that is refused. */
public final class KindsSentencesTest {
    private KindsSentencesTest() {}

    public static void main(String[] args) {
        Tries.runAll(KindsSentencesTest.class);
    }

    private static ArcKeeper kinds(int count) {
        ArcKeeper x = new ArcKeeper();
        for (int i = 0; i < count; i++) {
            x.addKind(-1, false);
        }
        return x;
    }

    /** Kinds that are each the parent of the next one. */
    private static ArcKeeper chain(int count) {
        ArcKeeper x = new ArcKeeper();
        for (int i = 0; i < count; i++) {
            x.addKind(i - 1, false);
        }
        return x;
    }

    private static ArcKeeper protocols(ArcKeeper x, int count) {
        for (int i = 0; i < count; i++) {
            x.addProtocol();
        }
        return x;
    }

    private static ArcKeeper functions(ArcKeeper x, int count) {
        for (int i = 0; i < count; i++) {
            x.addFunction(false);
        }
        return x;
    }

    /** One of each, and a task that was begun. */
    private static ArcKeeper closed() {
        ArcKeeper x = functions(protocols(kinds(1), 1), 1);
        x.addField(0, 's');
        x.addRequirement(0);
        x.begin(0, -1, false);
        return x;
    }

    // ---- promise 1

    @Says(promise = 1, words = "Creates a language without kinds, protocols and functions.")
    static void promise01HasNoKinds() {
        ArcKeeper x = new ArcKeeper();
        Tries.dueThrow("a field", Tries.INDEX, () -> x.addField(0, 's'));
        Tries.dueThrow("a code", Tries.INDEX, () -> x.setCode(0, 1));
        Tries.dueThrow("a parent", Tries.ARGUMENT, () -> x.addKind(0, true));
        x.addProtocol();
        Tries.dueThrow("what conforms", Tries.INDEX, () -> x.conforms(0, 0));
        Tries.due("the first kind", x.addKind(-1, false), 0);
        Tries.due("the first field", x.addField(0, 's'), 0);
    }

    @Says(promise = 1, words = "Creates a language without kinds, protocols and functions.")
    static void promise01HasNoProtocols() {
        ArcKeeper x = kinds(1);
        Tries.dueThrow("a requirement", Tries.INDEX, () -> x.addRequirement(0));
        Tries.dueThrow("to conform", Tries.INDEX, () -> x.conform(0, 0, -1));
        Tries.dueThrow("what conforms", Tries.INDEX, () -> x.conforms(0, 0));
        Tries.due("the first protocol", x.addProtocol(), 0);
        Tries.dueThrow("what meets a requirement", Tries.INDEX, () -> x.witnessOf(0, 0));
        Tries.due("the first requirement", x.addRequirement(0), 0);
    }

    @Says(promise = 1, words = "Creates a language without kinds, protocols and functions.")
    static void promise01HasNoFunctions() {
        ArcKeeper x = new ArcKeeper();
        Tries.dueThrow("lines", Tries.INDEX, () -> x.lines(0));
        Tries.dueThrow("a line", Tries.INDEX, () -> x.addLine(0, 'z', 0, 0, 0));
        Tries.dueThrow("a task", Tries.INDEX, () -> x.begin(0, -1, false));
        Tries.due("the first function", x.addFunction(false), 0);
        Tries.dueThrow("a task of it", Tries.INDEX, () -> x.state(0));
        Tries.due("the first task", x.begin(0, -1, false), 0);
    }

    @Says(promise = 1, words = "Creates a language without kinds, protocols and functions.")
    static void promise01NothingHappened() {
        ArcKeeper x = new ArcKeeper();
        Tries.due("made", x.made(), 0);
        Tries.due("alive", x.alive(), 0);
        Tries.due("accesses", x.accesses(), 0);
        Tries.due("prints", x.prints(), 0);
        Tries.due("deaths", x.deaths(), 0);
        Tries.due("kept", x.kept(), 0L);
        Tries.due("given up", x.givenUp(), 0L);
        Tries.due("sound", x.isSound(), true);
        Tries.dueThrow("mean", Tries.ARITHMETIC, x::meanSteps);
        Tries.dueThrow("print", Tries.INDEX, () -> x.printAt(0));
        Tries.dueThrow("death", Tries.INDEX, () -> x.deathAt(0));
        Tries.dueThrow("object", Tries.INDEX, () -> x.isAlive(0));
    }

    @Says(promise = 1, words = "Creates a language without kinds, protocols and functions.")
    static void promise01SharesNothing() {
        ArcKeeper x = Worlds.world("p 0; m 1 0; h 1");
        x.conform(0, 0, -1);
        x.setDefault(0, 0);
        x.begin(0, 1, true);
        x.step(0, 100);
        ArcKeeper y = new ArcKeeper();
        Tries.due("kind", y.addKind(-1, false), 0);
        Tries.due("code", y.setCode(0, 0), 0);
        Tries.due("field", y.addField(0, 's'), 0);
        Tries.due("protocol", y.addProtocol(), 0);
        Tries.due("requirement", y.addRequirement(0), 0);
        Tries.due("conforms", y.conforms(0, 0), false);
        Tries.due("function", y.addFunction(true), 0);
        Tries.due("lines", y.lines(0), 0);
        Tries.due("default", y.setDefault(0, 0), false);
        Tries.due("what happened", y.made() + y.prints() + y.deaths() + y.kept() + y.givenUp(), 0L);
    }

    // ---- promise 2

    @Says(promise = 2, words = {"Adds a kind.", "`parent`: the parent, or -1 for none",
        "Throws `IllegalArgumentException` if there is no such kind as the parent, and it is not -1"})
    static void promise02Parent() {
        Tries.dueRange("parent", -1, 2, n -> 3, Tries.ARGUMENT, n -> kinds(3).addKind(n, false));
        Tries.dueRange("parent of the first one", -1, -1, n -> 0, Tries.ARGUMENT, n -> kinds(0).addKind(n, true));
        Tries.dueRange("parent of the last one", -1, 6, n -> 7, Tries.ARGUMENT, n -> kinds(7).addKind(n, true));
    }

    @Says(promise = 2, words = "`parent`: the parent, or -1 for none")
    static void promise02ParentIsTheOneThatIsTold() {
        for (int parent = -1; parent < 3; parent++) {
            ArcKeeper x = protocols(kinds(3), 3);
            for (int kind = 0; kind < 3; kind++) {
                x.conform(kind, kind, -1);
            }
            int last = x.addKind(parent, false);
            for (int kind = 0; kind < 3; kind++) {
                Tries.due("conforms as its parent " + parent, x.conforms(last, kind), kind == parent);
            }
        }
    }

    @Says(promise = 2, words = "`isActor`: whether its objects are actors")
    static void promise02IsActor() {
        for (int actor = 0; actor < 4; actor++) {
            ArcKeeper x = new ArcKeeper();
            for (int kind = 0; kind < 4; kind++) {
                x.addKind(kind == 3 ? -1 : kind - 1, kind == actor);
            }
            Tries.function(x, false, "v 0; j");
            for (int kind = 0; kind < 4; kind++) {
                boolean isActor = actor == 3 ? kind == 3 : kind >= actor && kind < 3;
                Tries.due("actor " + actor + " kind " + kind, Worlds.ended(x, x.begin(0, kind, false)),
                        isActor ? "d -10000 in 2" : "t t at 0 in 1");
            }
        }
    }

    @Says(promise = 2, words = "`isActor`: whether its objects are actors")
    static void promise02IsActorSevenKindsUp() {
        ArcKeeper x = new ArcKeeper();
        for (int kind = 0; kind < 8; kind++) {
            x.addKind(kind - 1, kind == 0);
        }
        Tries.function(x, false, "v 0; j");
        Tries.due("by its highest parent", Worlds.ended(x, x.begin(0, 7, false)), "d -10000 in 2");
    }

    @Says(promise = 2, words = "Returns its number.")
    static void promise02Number() {
        ArcKeeper x = new ArcKeeper();
        for (int i = 0; i < 8; i++) {
            Tries.due("number", x.addKind(-1, i % 2 == 0), i);
        }
    }

    @Says(promise = 2, words = "Throws `IllegalStateException` if there are 8 kinds, or a task was begun")
    static void promise02EightKinds() {
        Tries.due("the eighth one", kinds(7).addKind(-1, false), 7);
        Tries.dueThrow("the ninth one", Tries.STATE, () -> kinds(8).addKind(-1, false));
        Tries.dueThrow("the ninth one with a parent", Tries.STATE, () -> kinds(8).addKind(7, true));
    }

    @Says(promise = 2, words = "or a task was begun")
    static void promise02Begun() {
        Tries.dueThrow("behind a task", Tries.STATE, () -> closed().addKind(-1, false));
        Tries.dueThrow("with a parent", Tries.STATE, () -> closed().addKind(0, false));
        ArcKeeper x = functions(kinds(1), 1);
        Tries.dueThrow("no task", Tries.INDEX, () -> x.begin(0, 1, false));
        Tries.due("a task that was refused", x.addKind(-1, false), 1);
    }

    @Says(promise = 2, words = {"if there is no such kind as the parent", "if there are 8 kinds, or a task was begun"})
    static void promise02ParentIsLookedAtFirst() {
        for (int parent : new int[] {8, -2}) {
            Tries.dueThrow("eight kinds, parent " + parent, Tries.ARGUMENT, () -> kinds(8).addKind(parent, false));
        }
        for (int parent : new int[] {1, -2}) {
            Tries.dueThrow("begun, parent " + parent, Tries.ARGUMENT, () -> closed().addKind(parent, false));
        }
    }

    // ---- promise 3

    @Says(promise = 3, words = {"Adds a field to a kind.", "`kind`: the kind",
        "Throws `IndexOutOfBoundsException` if there is no such kind"})
    static void promise03Kind() {
        Tries.dueRange("kind", 0, 2, n -> 0, Tries.INDEX, n -> kinds(3).addField(n, 's'));
        Tries.dueRange("kind of eight", 0, 7, n -> 0, Tries.INDEX, n -> kinds(8).addField(n, 'w'));
        Tries.dueThrow("no kinds", Tries.INDEX, () -> kinds(0).addField(0, 's'));
    }

    @Says(promise = 3, words = {"`type`: the type: 's' for a strong one, 'w' for a weak one, 'u' for an unowned one",
        "Throws `IllegalArgumentException` if there is no such type"})
    static void promise03Type() {
        ArcKeeper x = kinds(1);
        int taken = 0;
        for (int type = 0; type <= Character.MAX_VALUE; type++) {
            char sign = (char) type;
            if (sign == 's' || sign == 'w' || sign == 'u') {
                Tries.due("type " + sign, x.addField(0, sign), taken);
                taken++;
            } else {
                Tries.dueThrow("type " + type, Tries.ARGUMENT, () -> x.addField(0, sign));
            }
        }
        Tries.due("three types", taken, 3);
    }

    @Says(promise = 3, words = "'s' for a strong one, 'w' for a weak one, 'u' for an unowned one")
    static void promise03WhatTypesDo() {
        String[] want = {"d 10001 in 5", "d -10000 in 5", "t u at 3 in 4"};
        for (int i = 0; i < 3; i++) {
            ArcKeeper x = kinds(2);
            x.addField(0, "swu".charAt(i));
            Tries.function(x, false, "m 1 1; f 0 0 1; - 1; g 2 0 0; r 2");
            Tries.due("type " + "swu".charAt(i), Worlds.ended(x, x.begin(0, 0, false)), want[i]);
        }
    }

    @Says(promise = 3, words = "Returns the number of the field.")
    static void promise03Number() {
        ArcKeeper x = kinds(3);
        int[] kinds = {2, 0, 1, 1, 0, 2, 2, 2, 0, 1, 0, 0};
        for (int i = 0; i < 12; i++) {
            Tries.due("number over all kinds", x.addField(kinds[i], 's'), i);
        }
    }

    private static ArcKeeper fields(int count) {
        ArcKeeper x = kinds(2);
        for (int i = 0; i < count; i++) {
            x.addField(i % 2, 's');
        }
        return x;
    }

    @Says(promise = 3, words = "Throws `IllegalStateException` if there are 12 fields, or a task was begun")
    static void promise03TwelveFields() {
        Tries.due("the twelfth one", fields(11).addField(0, 'u'), 11);
        Tries.dueThrow("the thirteenth one", Tries.STATE, () -> fields(12).addField(0, 'u'));
        Tries.dueThrow("of another kind", Tries.STATE, () -> fields(12).addField(1, 's'));
    }

    @Says(promise = 3, words = "or a task was begun")
    static void promise03Begun() {
        Tries.dueThrow("behind a task", Tries.STATE, () -> closed().addField(0, 's'));
    }

    @Says(promise = 3, words = {"if there is no such kind", "if there is no such type",
        "if there are 12 fields, or a task was begun"})
    static void promise03Order() {
        Tries.dueThrow("kind ahead of type", Tries.INDEX, () -> kinds(1).addField(1, 'x'));
        Tries.dueThrow("kind ahead of twelve", Tries.INDEX, () -> fields(12).addField(2, 's'));
        Tries.dueThrow("kind ahead of begun", Tries.INDEX, () -> closed().addField(-1, 's'));
        Tries.dueThrow("kind ahead of all", Tries.INDEX, () -> closed().addField(1, 'x'));
        Tries.dueThrow("type ahead of twelve", Tries.ARGUMENT, () -> fields(12).addField(0, 'x'));
        Tries.dueThrow("type ahead of begun", Tries.ARGUMENT, () -> closed().addField(0, 'S'));
    }

    // ---- promise 4

    @Says(promise = 4, words = {"Sets the code of a kind, 0 at first.", "`kind`: the kind",
        "Throws `IndexOutOfBoundsException` if there is no such kind"})
    static void promise04Kind() {
        Tries.dueRange("kind", 0, 2, n -> 0, Tries.INDEX, n -> kinds(3).setCode(n, 5));
        Tries.dueRange("kind of eight", 0, 7, n -> 0, Tries.INDEX, n -> kinds(8).setCode(n, 5));
        Tries.dueThrow("no kinds", Tries.INDEX, () -> kinds(0).setCode(0, 5));
    }

    @Says(promise = 4, words = {"`code`: the code, 0 to 999",
        "Throws `IllegalArgumentException` if the code is out of range"})
    static void promise04Code() {
        Tries.dueRange("code", 0, 999, n -> 0, Tries.ARGUMENT, n -> kinds(1).setCode(0, n));
    }

    @Says(promise = 4, words = {"Sets the code of a kind, 0 at first.", "Returns the code before."})
    static void promise04CodeBefore() {
        ArcKeeper x = kinds(2);
        Tries.due("at first", x.setCode(1, 999), 0);
        Tries.due("the other one", x.setCode(0, 7), 0);
        Tries.due("before", x.setCode(1, 0), 999);
        Tries.due("before", x.setCode(1, 1), 0);
        Tries.due("before", x.setCode(1, 1), 1);
        Tries.due("the other one", x.setCode(0, 8), 7);
    }

    @Says(promise = 4, words = "Sets the code of a kind, 0 at first.")
    static void promise04CodeIsNoted() {
        ArcKeeper x = kinds(3);
        x.setCode(0, 999);
        x.setCode(1, 5);
        x.setCode(1, 6);
        Tries.function(x, true, "");
        for (int kind = 0; kind < 3; kind++) {
            x.begin(0, kind, false);
        }
        Tries.due("the last codes", Tries.died(x), "999 6 0");
    }

    @Says(promise = 4, words = "Throws `IllegalStateException` if a task was begun")
    static void promise04Begun() {
        Tries.dueThrow("behind a task", Tries.STATE, () -> closed().setCode(0, 0));
    }

    @Says(promise = 4, words = {"if there is no such kind", "if the code is out of range", "if a task was begun"})
    static void promise04Order() {
        Tries.dueThrow("kind ahead of code", Tries.INDEX, () -> kinds(1).setCode(1, 1000));
        Tries.dueThrow("kind ahead of begun", Tries.INDEX, () -> closed().setCode(1, 0));
        Tries.dueThrow("kind ahead of both", Tries.INDEX, () -> closed().setCode(-1, -1));
        Tries.dueThrow("code ahead of begun", Tries.ARGUMENT, () -> closed().setCode(0, 1000));
        Tries.dueThrow("code ahead of begun", Tries.ARGUMENT, () -> closed().setCode(0, -1));
    }

    // ---- promises 5 and 6

    @Says(promise = 5, words = {"Adds a protocol.", "Returns its number."})
    static void promise05Number() {
        ArcKeeper x = new ArcKeeper();
        for (int i = 0; i < 4; i++) {
            Tries.due("number", x.addProtocol(), i);
            int protocol = i;
            Tries.dueThrow("the next one is missing", Tries.INDEX, () -> x.addRequirement(protocol + 1));
            Tries.due("it is there", x.addRequirement(protocol), i);
        }
    }

    @Says(promise = 5, words = "Throws `IllegalStateException` if there are 4 protocols, or a task was begun")
    static void promise05FourProtocols() {
        Tries.due("the fourth one", protocols(kinds(0), 3).addProtocol(), 3);
        Tries.dueThrow("the fifth one", Tries.STATE, () -> protocols(kinds(0), 4).addProtocol());
    }

    @Says(promise = 5, words = "or a task was begun")
    static void promise05Begun() {
        Tries.dueThrow("behind a task", Tries.STATE, () -> closed().addProtocol());
    }

    @Says(promise = 6, words = {"Adds a requirement to a protocol.", "`protocol`: the protocol",
        "Throws `IndexOutOfBoundsException` if there is no such protocol"})
    static void promise06Protocol() {
        Tries.dueRange("protocol", 0, 1, n -> 0, Tries.INDEX, n -> protocols(kinds(0), 2).addRequirement(n));
        Tries.dueRange("protocol of four", 0, 3, n -> 0, Tries.INDEX, n -> protocols(kinds(0), 4).addRequirement(n));
        Tries.dueThrow("no protocols", Tries.INDEX, () -> kinds(1).addRequirement(0));
    }

    @Says(promise = 6, words = "Adds a requirement to a protocol.")
    static void promise06ItIsOfThatProtocol() {
        ArcKeeper x = functions(protocols(kinds(1), 4), 1);
        for (int requirement = 0; requirement < 8; requirement++) {
            x.addRequirement(requirement % 4);
            x.setDefault(requirement, 0);
        }
        x.conform(0, 2, -1);
        for (int requirement = 0; requirement < 8; requirement++) {
            int asked = requirement;
            Object want = requirement % 4 == 2 ? (Object) 0 : "NoSuchElementException";
            Tries.due("requirement " + requirement, Tries.outcome(() -> x.witnessOf(0, asked)), want);
        }
    }

    private static ArcKeeper requirements(int count) {
        ArcKeeper x = protocols(kinds(1), 2);
        for (int i = 0; i < count; i++) {
            x.addRequirement(i % 2);
        }
        return x;
    }

    @Says(promise = 6, words = "Returns its number, over all requirements.")
    static void promise06Number() {
        ArcKeeper x = protocols(kinds(0), 4);
        int[] protocols = {3, 3, 0, 1, 0, 2, 3, 1};
        for (int i = 0; i < 8; i++) {
            Tries.due("number over all protocols", x.addRequirement(protocols[i]), i);
        }
    }

    @Says(promise = 6, words = "Throws `IllegalStateException` if there are 8 requirements, or a task was begun")
    static void promise06EightRequirements() {
        Tries.due("the eighth one", requirements(7).addRequirement(0), 7);
        Tries.dueThrow("the ninth one", Tries.STATE, () -> requirements(8).addRequirement(0));
        Tries.dueThrow("of another protocol", Tries.STATE, () -> requirements(8).addRequirement(1));
    }

    @Says(promise = 6, words = "or a task was begun")
    static void promise06Begun() {
        Tries.dueThrow("behind a task", Tries.STATE, () -> closed().addRequirement(0));
    }

    @Says(promise = 6, words = {"if there is no such protocol", "if there are 8 requirements, or a task was begun"})
    static void promise06Order() {
        Tries.dueThrow("protocol ahead of eight", Tries.INDEX, () -> requirements(8).addRequirement(2));
        Tries.dueThrow("protocol ahead of eight", Tries.INDEX, () -> requirements(8).addRequirement(-1));
        Tries.dueThrow("protocol ahead of begun", Tries.INDEX, () -> closed().addRequirement(1));
        Tries.dueThrow("protocol ahead of begun", Tries.INDEX, () -> closed().addRequirement(-1));
    }

    // ---- promise 7

    private static ArcKeeper pairs(int kinds, int protocols) {
        return protocols(chain(kinds), protocols);
    }

    @Says(promise = 7, words = {"`kind`: the kind", "`protocol`: the protocol",
        "Throws `IndexOutOfBoundsException` if there is no such kind or protocol"})
    static void promise07KindAndProtocol() {
        Tries.dueRange("kind", 0, 2, n -> false, Tries.INDEX, n -> pairs(3, 2).conform(n, 0, -1));
        Tries.dueRange("protocol", 0, 1, n -> false, Tries.INDEX, n -> pairs(3, 2).conform(0, n, -1));
        Tries.dueRange("kind of eight", 0, 7, n -> false, Tries.INDEX, n -> pairs(8, 4).conform(n, 3, -1));
        Tries.dueRange("protocol of four", 0, 3, n -> false, Tries.INDEX, n -> pairs(8, 4).conform(7, n, -1));
    }

    @Says(promise = 7, words = {
        "`condition`: the protocol to which the parent of the kind must conform, or -1 for none",
        "Throws `IllegalArgumentException` if there is no such protocol as the condition, and it is not -1"})
    static void promise07Condition() {
        Tries.dueRange("condition", -1, 1, n -> false, Tries.ARGUMENT, n -> pairs(3, 2).conform(1, 0, n));
        Tries.dueRange("condition of four", -1, 3, n -> false, Tries.ARGUMENT, n -> pairs(3, 4).conform(1, 3, n));
    }

    @Says(promise = 7, words = "the protocol to which the parent of the kind must conform, or -1 for none")
    static void promise07ConditionIsThatProtocol() {
        for (int condition = -1; condition < 4; condition++) {
            for (int known = 0; known < 4; known++) {
                ArcKeeper x = pairs(2, 4);
                x.conform(0, known, -1);
                x.conform(1, 3, condition);
                Tries.due("condition " + condition + " known " + known, x.conforms(1, 3),
                        condition == -1 || condition == known || known == 3);
            }
        }
    }

    @Says(promise = 7, words = "Tells that a kind conforms to a protocol, in place of what was told before.")
    static void promise07InPlaceOfBefore() {
        ArcKeeper x = pairs(2, 3);
        x.conform(0, 2, -1);
        x.conform(1, 0, -1);
        Tries.due("told", x.conforms(1, 0), true);
        x.conform(1, 0, 1);
        Tries.due("a condition that doesn't hold in place of none", x.conforms(1, 0), false);
        x.conform(1, 0, 2);
        Tries.due("one that holds in place of it", x.conforms(1, 0), true);
        x.conform(1, 0, 0);
        Tries.due("and one that doesn't", x.conforms(1, 0), false);
        x.conform(1, 0, -1);
        Tries.due("none again", x.conforms(1, 0), true);
        Tries.due("another protocol", x.conforms(1, 1), false);
        Tries.due("another kind", x.conforms(0, 0), false);
    }

    @Says(promise = 7, words = "Returns whether it was told before.")
    static void promise07ToldBefore() {
        ArcKeeper x = pairs(3, 2);
        Tries.due("the first time", x.conform(1, 0, 1), false);
        Tries.due("though the condition doesn't hold", x.conform(1, 0, 0), true);
        Tries.due("again", x.conform(1, 0, -1), true);
        Tries.due("and again", x.conform(1, 0, -1), true);
        Tries.due("not of the kind below, that conforms", x.conform(2, 0, -1), false);
        Tries.due("not of the kind above", x.conform(0, 0, -1), false);
        Tries.due("not of the other protocol", x.conform(1, 1, -1), false);
    }

    @Says(promise = 7, words = "Throws `IllegalStateException` if a task was begun")
    static void promise07Begun() {
        Tries.dueThrow("behind a task", Tries.STATE, () -> closed().conform(0, 0, -1));
        Tries.dueThrow("with a condition", Tries.STATE, () -> closed().conform(0, 0, 0));
    }

    @Says(promise = 7, words = {"if there is no such kind or protocol",
        "if there is no such protocol as the condition, and it is not -1", "if a task was begun"})
    static void promise07Order() {
        Tries.dueThrow("kind ahead of condition", Tries.INDEX, () -> pairs(1, 1).conform(1, 0, 1));
        Tries.dueThrow("protocol ahead of condition", Tries.INDEX, () -> pairs(1, 1).conform(0, 1, 1));
        Tries.dueThrow("kind ahead of begun", Tries.INDEX, () -> closed().conform(1, 0, -1));
        Tries.dueThrow("protocol ahead of begun", Tries.INDEX, () -> closed().conform(0, 1, -1));
        Tries.dueThrow("all", Tries.INDEX, () -> closed().conform(-1, -1, -2));
        Tries.dueThrow("condition ahead of begun", Tries.ARGUMENT, () -> closed().conform(0, 0, 1));
        Tries.dueThrow("condition ahead of begun", Tries.ARGUMENT, () -> closed().conform(0, 0, -2));
    }

    // ---- promises 8 and 9

    private static ArcKeeper witnessed() {
        ArcKeeper x = functions(pairs(3, 2), 4);
        x.addRequirement(0);
        x.addRequirement(1);
        return x;
    }

    private static ArcKeeper full() {
        ArcKeeper x = functions(pairs(8, 4), 8);
        for (int i = 0; i < 8; i++) {
            x.addRequirement(3);
        }
        return x;
    }

    @Says(promise = 8, words = {"`kind`: the kind", "`requirement`: the requirement", "`function`: the function",
        "Throws `IndexOutOfBoundsException` if there is no such kind, requirement or function"})
    static void promise08Ranges() {
        Tries.dueRange("kind", 0, 2, n -> false, Tries.INDEX, n -> witnessed().setWitness(n, 0, 0));
        Tries.dueRange("requirement", 0, 1, n -> false, Tries.INDEX, n -> witnessed().setWitness(0, n, 0));
        Tries.dueRange("function", 0, 3, n -> false, Tries.INDEX, n -> witnessed().setWitness(0, 0, n));
        Tries.dueRange("kind of eight", 0, 7, n -> false, Tries.INDEX, n -> full().setWitness(n, 7, 7));
        Tries.dueRange("requirement of eight", 0, 7, n -> false, Tries.INDEX, n -> full().setWitness(7, n, 7));
        Tries.dueRange("function of eight", 0, 7, n -> false, Tries.INDEX, n -> full().setWitness(7, 7, n));
    }

    @Says(promise = 8, words = "Sets the function by which a kind itself meets a requirement.")
    static void promise08SetsIt() {
        for (int function = 0; function < 8; function++) {
            ArcKeeper x = full();
            x.conform(3, 3, -1);
            x.setWitness(3, 5, 7 - function);
            x.setWitness(3, 5, function);
            Tries.due("by itself", x.witnessOf(3, 5), function);
            Tries.dueThrow("another requirement", Tries.MISSING, () -> x.witnessOf(3, 4));
            Tries.dueThrow("the kind above", Tries.MISSING, () -> x.witnessOf(2, 5));
        }
    }

    @Says(promise = 8, words = "Returns whether there was one.")
    static void promise08ThereWasOne() {
        ArcKeeper x = witnessed();
        Tries.due("none", x.setWitness(1, 1, 0), false);
        Tries.due("the function 0", x.setWitness(1, 1, 3), true);
        Tries.due("another one", x.setWitness(1, 1, 3), true);
        Tries.due("of another requirement", x.setWitness(1, 0, 0), false);
        Tries.due("of the kind below", x.setWitness(2, 1, 0), false);
        Tries.due("of the kind above", x.setWitness(0, 1, 0), false);
        x.setDefault(0, 0);
        Tries.due("a default is none", x.setWitness(0, 0, 0), false);
    }

    @Says(promise = 8, words = "Throws `IllegalStateException` if a task was begun")
    static void promise08Begun() {
        Tries.dueThrow("behind a task", Tries.STATE, () -> closed().setWitness(0, 0, 0));
    }

    @Says(promise = 8, words = {"if there is no such kind, requirement or function", "if a task was begun"})
    static void promise08Order() {
        Tries.dueThrow("kind ahead of begun", Tries.INDEX, () -> closed().setWitness(1, 0, 0));
        Tries.dueThrow("requirement ahead of begun", Tries.INDEX, () -> closed().setWitness(0, 1, 0));
        Tries.dueThrow("function ahead of begun", Tries.INDEX, () -> closed().setWitness(0, 0, 1));
    }

    @Says(promise = 9, words = {"`requirement`: the requirement", "`function`: the function",
        "Throws `IndexOutOfBoundsException` if there is no such requirement or function"})
    static void promise09Ranges() {
        Tries.dueRange("requirement", 0, 1, n -> false, Tries.INDEX, n -> witnessed().setDefault(n, 0));
        Tries.dueRange("function", 0, 3, n -> false, Tries.INDEX, n -> witnessed().setDefault(0, n));
        Tries.dueRange("requirement of eight", 0, 7, n -> false, Tries.INDEX, n -> full().setDefault(n, 7));
        Tries.dueRange("function of eight", 0, 7, n -> false, Tries.INDEX, n -> full().setDefault(7, n));
    }

    @Says(promise = 9, words = "Sets the function by which a requirement is met by default.")
    static void promise09SetsIt() {
        for (int function = 0; function < 8; function++) {
            ArcKeeper x = full();
            x.conform(3, 3, -1);
            x.setDefault(5, 7 - function);
            x.setDefault(5, function);
            Tries.due("a kind that conforms", x.witnessOf(3, 5), function);
            Tries.due("a kind below it", x.witnessOf(7, 5), function);
            Tries.dueThrow("another requirement", Tries.MISSING, () -> x.witnessOf(3, 4));
            Tries.dueThrow("a kind that doesn't conform", Tries.MISSING, () -> x.witnessOf(2, 5));
        }
    }

    @Says(promise = 9, words = "Returns whether there was one.")
    static void promise09ThereWasOne() {
        ArcKeeper x = witnessed();
        Tries.due("none", x.setDefault(1, 0), false);
        Tries.due("the function 0", x.setDefault(1, 3), true);
        Tries.due("another one", x.setDefault(1, 0), true);
        x.setWitness(0, 0, 1);
        Tries.due("of another requirement, a witness is none", x.setDefault(0, 0), false);
    }

    @Says(promise = 9, words = "Throws `IllegalStateException` if a task was begun")
    static void promise09Begun() {
        Tries.dueThrow("behind a task", Tries.STATE, () -> closed().setDefault(0, 0));
    }

    @Says(promise = 9, words = {"if there is no such requirement or function", "if a task was begun"})
    static void promise09Order() {
        Tries.dueThrow("requirement ahead of begun", Tries.INDEX, () -> closed().setDefault(1, 0));
        Tries.dueThrow("function ahead of begun", Tries.INDEX, () -> closed().setDefault(0, 1));
    }

    // ---- promise 10

    @Says(promise = 10, words = {"`kind`: the kind", "`protocol`: the protocol",
        "Throws `IndexOutOfBoundsException` if there is no such kind or protocol"})
    static void promise10Ranges() {
        Tries.dueRange("kind", 0, 2, n -> false, Tries.INDEX, n -> pairs(3, 2).conforms(n, 0));
        Tries.dueRange("protocol", 0, 1, n -> false, Tries.INDEX, n -> pairs(3, 2).conforms(0, n));
        Tries.dueRange("kind of eight", 0, 7, n -> false, Tries.INDEX, n -> pairs(8, 4).conforms(n, 3));
        Tries.dueRange("protocol of four", 0, 3, n -> false, Tries.INDEX, n -> pairs(8, 4).conforms(7, n));
        Tries.due("behind a task", closed().conforms(0, 0), false);
    }

    @Says(promise = 10, words = {"Returns whether a kind conforms to a protocol.", "Returns whether it does."})
    static void promise10EachPair() {
        for (int kind = 0; kind < 8; kind++) {
            for (int protocol = 0; protocol < 4; protocol++) {
                ArcKeeper x = protocols(kinds(8), 4);
                x.conform(kind, protocol, -1);
                int count = 0;
                for (int k = 0; k < 8; k++) {
                    for (int p = 0; p < 4; p++) {
                        count += x.conforms(k, p) ? 1 : 0;
                    }
                }
                Tries.due("it does " + kind + " " + protocol, x.conforms(kind, protocol), true);
                Tries.due("no other one does", count, 1);
            }
        }
    }

    @Says(promise = 0, words = {"Kinds and protocols. ", "or if its parent conforms."})
    static void promise10FromAbove() {
        ArcKeeper x = pairs(8, 1);
        x.conform(0, 0, -1);
        for (int kind = 0; kind < 8; kind++) {
            Tries.due("by a chain of parents " + kind, x.conforms(kind, 0), true);
        }
        ArcKeeper y = pairs(8, 1);
        y.conform(7, 0, -1);
        for (int kind = 0; kind < 7; kind++) {
            Tries.due("not from below " + kind, y.conforms(kind, 0), false);
        }
        ArcKeeper z = protocols(kinds(1), 1);
        z.conform(0, 0, -1);
        z.addKind(0, false);
        Tries.due("a kind that is added later", z.conforms(1, 0), true);
    }

    @Says(promise = 0, words = "A kind conforms to a protocol if this was told of it and the condition holds, "
        + "that is, if there is one, it has a parent and this conforms to the protocol that is the condition;")
    static void promise10Conditions() {
        ArcKeeper x = pairs(3, 2);
        x.conform(0, 0, 0);
        Tries.due("no parent", x.conforms(0, 0), false);
        x.conform(0, 0, -1);
        x.conform(1, 1, 0);
        Tries.due("the parent conforms", x.conforms(1, 1), true);
        x.conform(2, 1, 0);
        Tries.due("the parent conforms by its own parent", x.conforms(2, 1), true);
        ArcKeeper y = pairs(3, 3);
        y.conform(0, 0, -1);
        y.conform(2, 1, 0);
        Tries.due("by the parent of the parent alone", y.conforms(2, 1), true);
        y.conform(2, 2, 2);
        Tries.due("the protocol itself", y.conforms(2, 2), false);
        y.conform(1, 2, -1);
        Tries.due("the protocol itself, of the parent", y.conforms(2, 2), true);
        ArcKeeper z = pairs(2, 2);
        z.conform(1, 0, -1);
        z.conform(1, 1, 0);
        Tries.due("the kind conforms, its parent doesn't", z.conforms(1, 1), false);
        z.conform(0, 0, -1);
        Tries.due("told later", z.conforms(1, 1), true);
    }

    @Says(promise = 0, words = "the condition holds, that is, if there is one, it has a parent and this conforms")
    static void promise10ChainOfConditions() {
        ArcKeeper x = pairs(8, 4);
        x.conform(0, 0, -1);
        for (int kind = 1; kind < 8; kind++) {
            x.conform(kind, kind % 4, (kind + 3) % 4);
        }
        Tries.due("seven conditions hold", x.conforms(7, 3), true);
        x.conform(0, 0, 0);
        for (int protocol = 0; protocol < 4; protocol++) {
            Tries.due("none of them does", x.conforms(7, protocol), false);
        }
    }

    // ---- promise 11

    @Says(promise = 11, words = {"`kind`: the kind", "`requirement`: the requirement",
        "Throws `IndexOutOfBoundsException` if there is no such kind or requirement"})
    static void promise11Ranges() {
        Tries.dueRange("kind", 0, 7, n -> 2, Tries.INDEX, n -> met().witnessOf(n, 0));
        Tries.dueRange("requirement", 0, 7, n -> 2, Tries.INDEX, n -> met().witnessOf(0, n));
        Tries.dueThrow("one kind and no requirement", Tries.INDEX, () -> kinds(1).witnessOf(0, 0));
        ArcKeeper x = witnessed();
        Tries.dueRange("kind of three", 0, 2, n -> "NoSuchElementException", Tries.INDEX, n -> x.witnessOf(n, 1));
        Tries.dueRange("requirement of two", 0, 1, n -> "NoSuchElementException", Tries.INDEX, n -> x.witnessOf(2, n));
    }

    private static ArcKeeper met() {
        ArcKeeper x = full();
        x.conform(0, 3, -1);
        for (int requirement = 0; requirement < 8; requirement++) {
            x.setDefault(requirement, 2);
        }
        return x;
    }

    @Says(promise = 11, words = {"Returns the function by which a kind meets a requirement.", "Returns the function."})
    static void promise11EachFunction() {
        ArcKeeper x = full();
        x.conform(7, 3, -1);
        for (int requirement = 0; requirement < 8; requirement++) {
            x.setWitness(7, requirement, requirement);
        }
        for (int requirement = 0; requirement < 8; requirement++) {
            Tries.due("requirement " + requirement, x.witnessOf(7, requirement), requirement);
        }
    }

    @Says(promise = 11, words = "Throws `NoSuchElementException` if there is none")
    static void promise11None() {
        ArcKeeper x = witnessed();
        Tries.dueThrow("nothing was told", Tries.MISSING, () -> x.witnessOf(0, 0));
        x.setDefault(0, 1);
        Tries.dueThrow("a default, but it doesn't conform", Tries.MISSING, () -> x.witnessOf(0, 0));
        x.setWitness(0, 0, 2);
        Tries.dueThrow("a witness, but it wasn't told", Tries.MISSING, () -> x.witnessOf(0, 0));
        x.conform(0, 1, -1);
        Tries.dueThrow("it conforms to the other protocol", Tries.MISSING, () -> x.witnessOf(0, 0));
        Tries.dueThrow("it conforms, but there is no function", Tries.MISSING, () -> x.witnessOf(0, 1));
        x.conform(0, 0, 1);
        Tries.dueThrow("the condition doesn't hold", Tries.MISSING, () -> x.witnessOf(0, 0));
        x.conform(0, 0, -1);
        Tries.due("then it is met", x.witnessOf(0, 0), 2);
    }

    @Says(promise = 0, words = "A kind meets a requirement by the witness of the nearest kind, from itself upwards, "
        + "that has one and conforms to the protocol of the requirement by what was told of itself;")
    static void promise11TheNearestWitness() {
        ArcKeeper x = functions(pairs(4, 2), 5);
        x.addRequirement(0);
        x.conform(0, 0, -1);
        x.setWitness(0, 0, 0);
        x.conform(1, 0, -1);
        x.setWitness(1, 0, 1);
        x.setWitness(2, 0, 2);
        x.conform(3, 0, -1);
        x.setDefault(0, 4);
        Tries.due("its own", x.witnessOf(0, 0), 0);
        Tries.due("its own ahead of that above", x.witnessOf(1, 0), 1);
        Tries.due("it has one but was told nothing", x.witnessOf(2, 0), 1);
        Tries.due("it was told but has none", x.witnessOf(3, 0), 1);
        x.conform(2, 0, 1);
        Tries.due("it was told with a condition that doesn't hold", x.witnessOf(2, 0), 1);
        x.conform(2, 0, 0);
        Tries.due("with one that holds", x.witnessOf(2, 0), 2);
        Tries.due("the kind below", x.witnessOf(3, 0), 2);
        x.conform(2, 1, -1);
        x.conform(2, 0, 1);
        Tries.due("the condition is asked of the parent, not of the kind", x.witnessOf(3, 0), 1);
        x.conform(1, 1, -1);
        Tries.due("the parent conforms", x.witnessOf(3, 0), 2);
    }

    @Says(promise = 0, words = "that has one and conforms to the protocol of the requirement by what was told of itself;")
    static void promise11EightKindsUp() {
        ArcKeeper x = full();
        x.conform(0, 3, -1);
        x.setWitness(0, 0, 5);
        Tries.due("from the top", x.witnessOf(7, 0), 5);
        x.setDefault(0, 6);
        Tries.due("ahead of the default", x.witnessOf(7, 0), 5);
    }

    @Says(promise = 0, words = {"otherwise, if it conforms to the protocol, by the default;", "otherwise by none."})
    static void promise11Default() {
        ArcKeeper x = functions(pairs(3, 2), 3);
        x.addRequirement(0);
        x.addRequirement(1);
        x.setDefault(0, 1);
        x.conform(1, 0, -1);
        Tries.due("told itself", x.witnessOf(1, 0), 1);
        Tries.due("by its parent", x.witnessOf(2, 0), 1);
        Tries.dueThrow("not the kind above", Tries.MISSING, () -> x.witnessOf(0, 0));
        Tries.dueThrow("not the other requirement", Tries.MISSING, () -> x.witnessOf(1, 1));
        x.setWitness(2, 0, 2);
        Tries.due("a witness of a kind that was told nothing", x.witnessOf(2, 0), 1);
        x.conform(1, 1, -1);
        Tries.dueThrow("it conforms, and there is none", Tries.MISSING, () -> x.witnessOf(1, 1));
    }
}
