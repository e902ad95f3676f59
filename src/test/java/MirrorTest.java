import java.util.Random;

/** Random languages, run by ArcKeeper and by the mirror: each answer must be the same behind each call. */
public final class MirrorTest {
    private final Random random;
    private final ArcKeeper x = new ArcKeeper();
    private final Mirror mirror = new Mirror();
    private final String name;
    private static final int[] ENDS = new int[128];

    private MirrorTest(int seed) {
        random = new Random(seed);
        name = "seed " + seed;
    }

    public static void main(String[] args) {
        int first = args.length > 0 ? Integer.parseInt(args[0]) : 0;
        int count = args.length > 1 ? Integer.parseInt(args[1]) : 1500;
        for (int seed = first; seed < first + count; seed++) {
            MirrorTest test = new MirrorTest(seed);
            test.declare();
            test.compareDeclared();
            test.run();
            test.mirror.close();
        }
        StringBuilder ends = new StringBuilder("tasks ended:");
        for (int i = 0; i < ENDS.length; i++) {
            if (ENDS[i] > 0) {
                ends.append(' ').append((char) i).append(' ').append(ENDS[i]);
            }
        }
        System.out.println(ends);
        Tries.end("MirrorTest");
    }

    private int below(int bound) {
        return random.nextInt(bound);
    }

    private boolean chance(int percent) {
        return below(100) < percent;
    }

    // ---- telling both the same

    private void declare() {
        int kinds = 1 + below(4);
        for (int i = 0; i < kinds; i++) {
            int parent = i == 0 || chance(25) ? -1 : below(i);
            boolean isActor = chance(parent < 0 ? 80 : 30);
            int code = 1 + below(99);
            x.addKind(parent, isActor);
            x.setCode(i, code);
            mirror.kind(parent, isActor, code);
        }
        int fields = 1 + below(6);
        for (int i = 0; i < fields; i++) {
            int kind = chance(60) ? 0 : below(kinds);
            char type = "ssswu".charAt(below(5));
            x.addField(kind, type);
            mirror.field(kind, type);
        }
        int functions = 1 + below(5);
        for (int i = 0; i < functions; i++) {
            boolean isOwned = chance(50);
            x.addFunction(isOwned);
            Mirror.Fn f = new Mirror.Fn();
            f.isOwned = isOwned;
            mirror.functions.add(f);
        }
        declareProtocols(kinds, functions);
        for (int i = 0; i < functions; i++) {
            write(i, kinds, fields, functions);
            mirror.review(mirror.functions.get(i));
        }
    }

    private void declareProtocols(int kinds, int functions) {
        int protocols = 1 + below(4);
        for (int i = 0; i < protocols; i++) {
            x.addProtocol();
        }
        int requirements = 1 + below(4);
        for (int i = 0; i < requirements; i++) {
            int protocol = below(protocols);
            x.addRequirement(protocol);
            mirror.requirements.add(protocol);
            if (chance(60)) {
                int function = below(functions);
                x.setDefault(i, function);
                mirror.defaults.put(i, function);
            }
        }
        for (int kind = 0; kind < kinds; kind++) {
            for (int protocol = 0; protocol < protocols; protocol++) {
                if (chance(50)) {
                    int condition = chance(50) ? -1 : below(protocols);
                    x.conform(kind, protocol, condition);
                    mirror.kinds.get(kind).told.put(protocol, condition);
                }
            }
            for (int requirement = 0; requirement < requirements; requirement++) {
                if (chance(40)) {
                    int function = below(functions);
                    x.setWitness(kind, requirement, function);
                    mirror.kinds.get(kind).witnesses.put(requirement, function);
                }
            }
        }
    }

    private int room;

    /** Which variables are likely to hold objects at the line that is written. */
    private final boolean[] isLikely = new boolean[6];

    private void write(int function, int kinds, int fields, int functions) {
        room = 2 + below(23);
        if (chance(3)) {
            return;
        }
        for (int v = 0; v < 6; v++) {
            isLikely[v] = v == 0;
            if (room > 4 && chance(v == 0 ? 10 : 45)) {
                line(function, chance(80) ? 'm' : 'n', v, below(kinds), 0);
            }
        }
        body(function, fields, kinds, functions, false);
        if (room > 0 && chance(6)) {
            line(function, "jozdye".charAt(below(6)), below(6), below(fields), 0);
        }
    }

    private void body(int f, int fields, int kinds, int functions, boolean isPutOff) {
        while (room > 0 && !chance(isPutOff ? 35 : 9)) {
            char kind = pick(isPutOff);
            int v = kind == 'f' || kind == 'e' || kind == 'v' ? object() : below(6);
            int w = chance(75) ? object() : below(6);
            int u = below(6);
            if (chance(4) && room > 5) {
                pattern(f, v, w, fields, isPutOff);
                continue;
            }
            switch (kind) {
                case 'm': line(f, kind, v, below(kinds), 0); break;
                case 'n': line(f, kind, v, below(1999) - 999, 0); break;
                case 'g': line(f, kind, v, w, below(fields)); break;
                case 'f': line(f, kind, v, below(fields), w); break;
                case 'k': line(f, kind, v, below(functions), w); break;
                case 'q': line(f, kind, v, below(mirror.requirements.size()), w); break;
                case 'h': line(f, kind, 1 + below(9), 0, 0); break;
                case '?': case 'l': case 'y': case 'd': case 'e': case 'v':
                    part(f, kind, v, fields, kinds, functions);
                    break;
                default: line(f, kind, v, w, u); break;
            }
        }
    }

    /** Lines that by chance alone hardly ever come together. */
    private void pattern(int f, int v, int w, int fields, boolean isPutOff) {
        int field = below(fields);
        int u = below(6);
        if (isPutOff || chance(50)) {
            line(f, 'f', w, field, v);
            line(f, '-', v, 0, 0);
            line(f, 'g', u, w, field);
        } else {
            line(f, 'c', u, w, 0);
            line(f, 'e', w, field, 0);
            if (chance(50)) {
                line(f, 'g', v, u == w ? v : u, field);
            } else {
                line(f, 'f', u, field, v);
            }
            line(f, 'j', 0, 0, 0);
        }
    }

    private int object() {
        int v = below(6);
        for (int i = 0; i < 5 && !isLikely[v] && chance(95); i++) {
            v = (v + 1) % 6;
        }
        return v;
    }

    private char pick(boolean isPutOff) {
        if (isPutOff) {
            return chance(2) ? 'z' : "mn-ccggffpp+".charAt(below(12));
        }
        return "mmmn-cccc+gggffffpp??llkkkqrhyyddeevvzz".charAt(below(39));
    }

    private void part(int f, char kind, int v, int fields, int kinds, int functions) {
        if (room < (kind == 'y' ? 3 : 2)) {
            return;
        }
        room -= kind == 'y' ? 2 : 1;
        line(f, kind, kind == 'l' ? 1 + below(5) : v, below(fields), 0);
        body(f, fields, kinds, functions, kind == 'd');
        if (kind == 'y' && !chance(2)) {
            room++;
            line(f, 'o', 0, 0, 0);
            body(f, fields, kinds, functions, false);
        }
        room++;
        if (!chance(1)) {
            line(f, 'j', 0, 0, 0);
        }
    }

    private void line(int function, char kind, int a, int b, int c) {
        room--;
        if (kind == 'm' || kind == 'c') {
            isLikely[a] = true;
        } else if (kind == 'n' || kind == '-' || kind == '+' || kind == 'y') {
            isLikely[a] = false;
        }
        x.addLine(function, kind, a, b, c);
        mirror.line(function, kind, a, b, c);
    }

    // ---- comparing

    private void due(String what, Object got, Object want) {
        if (got.equals(want)) {
            Tries.due(what, got, want);
        } else {
            Tries.due(name + " " + what + " of " + text(), got, want);
        }
    }

    private String text() {
        StringBuilder text = new StringBuilder();
        for (Mirror.Fn f : mirror.functions) {
            text.append(f.isOwned ? "\n  owned" : "\n ");
            for (Mirror.Line l : f.lines) {
                text.append(' ').append(l.kind);
                for (int n : l.n) {
                    text.append(' ').append(n);
                }
                text.append(';');
            }
        }
        return text.toString();
    }

    private void compareDeclared() {
        for (int kind = 0; kind < mirror.kinds.size(); kind++) {
            Mirror.Kind k = mirror.kinds.get(kind);
            int kindNumber = kind;
            for (int r = 0; r < mirror.requirements.size(); r++) {
                int requirement = r;
                int protocol = mirror.requirements.get(r);
                due("conforms", x.conforms(kind, protocol), k.conforms(protocol));
                Integer witness = mirror.witness(k, r);
                due("witness", Tries.outcome(() -> x.witnessOf(kindNumber, requirement)),
                        witness == null ? "NoSuchElementException" : witness);
            }
        }
        for (int i = 0; i < mirror.functions.size(); i++) {
            Mirror.Fn f = mirror.functions.get(i);
            due("check " + i, x.check(i), f.fault);
            if (f.fault != '-') {
                due("checkAt " + i, x.checkAt(i), f.faultAt);
                continue;
            }
            for (int v = 0; v < 6; v++) {
                due("lastLine " + i + " " + v, x.lastLine(i, v), mirror.lastLine(f, v));
            }
            for (int line = 0; line < f.lines.size(); line++) {
                due("isMove " + i + " " + line, x.isMove(i, line), mirror.isMove(f, line));
            }
        }
    }

    private void run() {
        if (mirror.functions.stream().anyMatch(f -> f.fault != '-')) {
            Tries.dueThrow("begin", UnsupportedOperationException.class, () -> x.begin(0, -1, false));
            return;
        }
        int steps = 0;
        for (int call = 0; call < 300 && steps < 600; call++) {
            if (mirror.tasks.size() < 6 && chance(mirror.tasks.isEmpty() ? 100 : 10)) {
                int function = below(mirror.functions.size());
                int kind = chance(85) ? below(mirror.kinds.size()) : -1;
                boolean isThrifty = chance(60);
                if (kind >= 0 && mirror.things.size() == 150) {
                    break;
                }
                x.begin(function, kind, isThrifty);
                mirror.begin(function, kind, isThrifty);
            } else {
                steps += stepBoth(below(mirror.tasks.size()));
            }
            compareRun();
        }
        for (Mirror.TaskThread t : mirror.tasks) {
            ENDS[t.state == 't' ? t.trap : t.state == 'd' ? 'D' : t.state == 'e' ? 'E' : 'R']++;
        }
    }

    private int stepBoth(int task) {
        Mirror.TaskThread t = mirror.tasks.get(task);
        if (t.state != 'r') {
            Tries.dueThrow("step", IllegalStateException.class, () -> x.step(task, 1));
            return 1;
        }
        int most = chance(70) ? 1 : 1 + below(9);
        int made = 0;
        while (made < most && t.state == 'r') {
            t.step();
            made++;
        }
        due("step", x.step(task, most), made);
        return made;
    }

    private void compareRun() {
        for (int i = 0; i < mirror.tasks.size(); i++) {
            Mirror.TaskThread t = mirror.tasks.get(i);
            due("state", x.state(i), t.state);
            due("depth", x.depth(i), t.calls.size());
            if (t.state == 'r' || t.state == 't') {
                due("at", x.at(i), t.calls.peek().at);
            }
            if (t.state == 't') {
                due("trap", x.trap(i), t.trap);
            } else if (t.state == 'e') {
                due("error", x.error(i), t.error);
            } else if (t.state == 'd') {
                due("result", x.result(i), Mirror.shown(t.result));
            }
        }
        due("made", x.made(), mirror.things.size());
        for (int i = 0; i < mirror.things.size(); i++) {
            int object = i;
            Mirror.Thing t = mirror.things.get(i);
            due("kindOf", x.kindOf(i), t.kind.number);
            due("countOf " + i, x.countOf(i), t.count);
            due("ownersOf " + i, x.ownersOf(i), t.count);
            due("occupiedBy", Tries.outcome(() -> x.occupiedBy(object)),
                    t.occupant == null ? "NoSuchElementException" : t.occupant);
        }
        due("accesses", x.accesses(), mirror.accesses);
        due("kept", x.kept(), mirror.kept);
        due("givenUp", x.givenUp(), mirror.givenUp);
        due("isSound", x.isSound(), true);
        StringBuilder prints = new StringBuilder();
        mirror.prints.forEach(p -> prints.append(prints.length() == 0 ? "" : " ").append(p));
        due("prints", Tries.printed(x), prints.toString());
        StringBuilder deaths = new StringBuilder();
        mirror.deaths.forEach(p -> deaths.append(deaths.length() == 0 ? "" : " ").append(p));
        due("deaths", Tries.died(x), deaths.toString());
    }
}
