/** Small languages for the tests, and how their tasks end. */
final class Worlds {
    private Worlds() {}

    /**
     * Kind 0 (code 10, an actor) has the strong field 0; kind 1 (code 11), below it, the weak field 1, the
     * unowned field 2 and the strong field 3; kind 2 (code 12) stands alone, is no actor, and has none.
     */
    static ArcKeeper world(String... functions) {
        ArcKeeper x = new ArcKeeper();
        x.addKind(-1, true);
        x.addKind(0, false);
        x.addKind(-1, false);
        x.setCode(0, 10);
        x.setCode(1, 11);
        x.setCode(2, 12);
        x.addField(0, 's');
        x.addField(1, 'w');
        x.addField(1, 'u');
        x.addField(1, 's');
        x.addProtocol();
        x.addRequirement(0);
        addAll(x, functions);
        return x;
    }

    /** Adds functions that may call each other; a text that begins with "owned" owns its parameter. */
    static void addAll(ArcKeeper x, String... functions) {
        int[] numbers = new int[functions.length];
        for (int i = 0; i < functions.length; i++) {
            numbers[i] = x.addFunction(functions[i].startsWith("owned"));
        }
        for (int i = 0; i < functions.length; i++) {
            String text = functions[i].replaceFirst("^owned *", "");
            if (!text.isEmpty()) {
                Tries.write(x, numbers[i], text);
            }
        }
    }

    /** Begins a task of the function 0 in the plain way, and lets it make steps. */
    static ArcKeeper begun(int kind, int steps, String... functions) {
        return begun(kind, false, steps, functions);
    }

    static ArcKeeper begun(int kind, boolean isThrifty, int steps, String... functions) {
        ArcKeeper x = world(functions);
        x.begin(0, kind, isThrifty);
        if (steps > 0) {
            Tries.due("steps of " + functions[0], x.step(0, steps), steps);
        }
        return x;
    }

    /** Lets a task go to its end, and tells how it ended and in how many steps. */
    static String ended(ArcKeeper x, int task) {
        int steps = 0;
        while (x.state(task) == 'r' && steps < 10000) {
            steps += x.step(task, 100);
        }
        return told(x, task) + " in " + steps;
    }

    /** The state of a task, and its result, its error, its trap or its line. */
    static String told(ArcKeeper x, int task) {
        switch (x.state(task)) {
            case 'd':
                return "d " + x.result(task);
            case 'e':
                return "e " + x.error(task);
            case 't':
                return "t " + x.trap(task) + " at " + x.at(task);
            default:
                return x.state(task) + " at " + x.at(task);
        }
    }

    /** How a task of the first function ends. */
    static String run(int kind, boolean isThrifty, String... functions) {
        ArcKeeper x = world(functions);
        String told = ended(x, x.begin(0, kind, isThrifty));
        Tries.due("43 sound behind " + functions[0], x.isSound(), true);
        return told;
    }

    static String run(int kind, String... functions) {
        return run(kind, false, functions);
    }

    /** What a task of the first function prints. */
    static String prints(int kind, String... functions) {
        ArcKeeper x = world(functions);
        ended(x, x.begin(0, kind, false));
        return Tries.printed(x);
    }

    /** How often counts increased and decreased. */
    static String counts(ArcKeeper x) {
        return x.kept() + " " + x.givenUp();
    }

    /** Count and owners of an object. */
    static String owned(ArcKeeper x, int object) {
        return x.countOf(object) + " " + x.ownersOf(object);
    }
}
