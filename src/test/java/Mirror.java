import java.util.ArrayDeque;
import java.util.ArrayList;
import java.util.Arrays;
import java.util.Deque;
import java.util.HashMap;
import java.util.HashSet;
import java.util.List;
import java.util.Map;
import java.util.Set;
import java.util.TreeSet;
import java.util.concurrent.SynchronousQueue;

/**
 * The language once more, written as differently as can be: functions are trees, a task is a Java thread
 * that stops ahead of each line, and returns and errors are Java exceptions. It takes right calls alone.
 */
final class Mirror {
    static final class Kind {
        Kind parent;
        boolean isActor;
        int code;
        final List<Integer> fields = new ArrayList<>();
        final Map<Integer, Integer> told = new HashMap<>();
        final Map<Integer, Integer> witnesses = new HashMap<>();
        int number;

        boolean has(int field) {
            return fields.contains(field) || (parent != null && parent.has(field));
        }

        boolean acts() {
            return isActor || (parent != null && parent.acts());
        }

        boolean conformsItself(int protocol) {
            Integer condition = told.get(protocol);
            return condition != null && (condition == -1 || (parent != null && parent.conforms(condition)));
        }

        boolean conforms(int protocol) {
            return conformsItself(protocol) || (parent != null && parent.conforms(protocol));
        }
    }

    static final class Thing {
        Kind kind;
        int count = 1;
        Integer occupant;
        final Map<Integer, Object> fields = new HashMap<>();
        final Set<Integer> exclusive = new HashSet<>();
    }

    static final class Line {
        char kind;
        int number;
        int[] n;
    }

    /** A line, or a part with its lines and the lines that end it. */
    static final class Item {
        Line line;
        final List<Item> body = new ArrayList<>();
        final List<Item> handler = new ArrayList<>();
        Line other;
        Line end;

        int last() {
            return end == null ? line.number : end.number;
        }

        List<Line> all() {
            List<Line> all = new ArrayList<>();
            all.add(line);
            body.forEach(i -> all.addAll(i.all()));
            if (other != null) {
                all.add(other);
            }
            handler.forEach(i -> all.addAll(i.all()));
            if (end != null) {
                all.add(end);
            }
            return all;
        }
    }

    static final class Fn {
        boolean isOwned;
        final List<Line> lines = new ArrayList<>();
        List<Item> tree;
        char fault = '-';
        int faultAt = -1;
    }

    static class Leaves extends RuntimeException {
        private static final long serialVersionUID = 1;

        Leaves() {
            super(null, null, false, false);
        }
    }

    static final class Returns extends Leaves {
        private static final long serialVersionUID = 1;
        transient Object value;
    }

    static final class Throws extends Leaves {
        private static final long serialVersionUID = 1;
        int error;
    }

    static final class Trap extends RuntimeException {
        private static final long serialVersionUID = 1;
        final char why;

        Trap(char why) {
            super(null, null, false, false);
            this.why = why;
        }
    }

    final List<Kind> kinds = new ArrayList<>();
    final List<Character> fieldTypes = new ArrayList<>();
    final List<Integer> requirements = new ArrayList<>();
    final Map<Integer, Integer> defaults = new HashMap<>();
    final List<Fn> functions = new ArrayList<>();
    final List<Thing> things = new ArrayList<>();
    final List<TaskThread> tasks = new ArrayList<>();
    final List<Integer> prints = new ArrayList<>();
    final List<Integer> deaths = new ArrayList<>();
    int accesses = 0;
    long kept = 0;
    long givenUp = 0;

    // ---- kinds and functions

    void kind(int parent, boolean isActor, int code) {
        Kind k = new Kind();
        k.number = kinds.size();
        k.parent = parent < 0 ? null : kinds.get(parent);
        k.isActor = isActor;
        k.code = code;
        kinds.add(k);
    }

    void field(int kind, char type) {
        kinds.get(kind).fields.add(fieldTypes.size());
        fieldTypes.add(type);
    }

    Integer witness(Kind kind, int requirement) {
        int protocol = requirements.get(requirement);
        for (Kind k = kind; k != null; k = k.parent) {
            if (k.witnesses.containsKey(requirement) && k.conformsItself(protocol)) {
                return k.witnesses.get(requirement);
            }
        }
        return kind.conforms(protocol) ? defaults.get(requirement) : null;
    }

    void line(int function, char kind, int... n) {
        Line l = new Line();
        l.kind = kind;
        l.n = n;
        l.number = functions.get(function).lines.size();
        functions.get(function).lines.add(l);
    }

    /** Which of the three numbers are variables. */
    static int[] variables(Line l) {
        switch (l.kind) {
            case 'l': case 'h': case 'o': case 'd': case 'z': case 'j':
                return new int[0];
            case 'c': case 'g':
                return new int[] {l.n[0], l.n[1]};
            case '+':
                return new int[] {l.n[0], l.n[1], l.n[2]};
            case 'f': case 'k': case 'q':
                return new int[] {l.n[0], l.n[2]};
            default:
                return new int[] {l.n[0]};
        }
    }

    private static final class Fault extends RuntimeException {
        private static final long serialVersionUID = 1;
        final char what;
        final int where;

        Fault(char what, int where) {
            this.what = what;
            this.where = where;
        }
    }

    /** Makes the tree of a function, or notes its fault. */
    void review(Fn f) {
        f.fault = '-';
        try {
            int[] next = {0};
            f.tree = items(f, next, new ArrayDeque<>());
            if (next[0] < f.lines.size()) {
                throw new Fault('b', next[0]);
            }
        } catch (Fault fault) {
            f.fault = fault.what;
            f.faultAt = fault.where;
        }
    }

    private List<Item> items(Fn f, int[] next, Deque<Line> around) {
        List<Item> items = new ArrayList<>();
        while (next[0] < f.lines.size()) {
            Line l = f.lines.get(next[0]);
            if (l.kind == 'j' || l.kind == 'o') {
                return items;
            }
            if (!around.isEmpty() && around.peek().kind == 'd' && "mn-c+gfp".indexOf(l.kind) < 0) {
                throw new Fault('d', l.number);
            }
            lookForAccess(f, l, around);
            Item item = new Item();
            item.line = l;
            items.add(item);
            next[0]++;
            if ("?lydev".indexOf(l.kind) >= 0) {
                around.push(l);
                item.body.addAll(items(f, next, around));
                around.pop();
                if (l.kind == 'y') {
                    item.other = expect(f, next, 'o');
                    around.push(item.other);
                    item.handler.addAll(items(f, next, around));
                    around.pop();
                }
                item.end = expect(f, next, 'j');
            }
        }
        return items;
    }

    private static Line expect(Fn f, int[] next, char kind) {
        if (next[0] >= f.lines.size() || f.lines.get(next[0]).kind != kind) {
            throw new Fault('b', next[0]);
        }
        return f.lines.get(next[0]++);
    }

    private void lookForAccess(Fn f, Line l, Deque<Line> around) {
        if ("gfe".indexOf(l.kind) < 0) {
            return;
        }
        int variable = l.kind == 'g' ? l.n[1] : l.n[0];
        int field = l.kind == 'g' ? l.n[2] : l.n[1];
        for (Line e : around) {
            if (e.kind == 'e' && e.n[0] == variable && e.n[1] == field) {
                Deque<Line> tried = new ArrayDeque<>();
                boolean isSet = false;
                for (Line m : f.lines.subList(0, l.number)) {
                    boolean isBetween = m.number > e.number;
                    if ("?ldev".indexOf(m.kind) >= 0 || m.kind == 'y') {
                        tried.push(m);
                    } else if (m.kind == 'o') {
                        isSet |= isBetween && tried.peek().n[0] == variable;
                    } else if (m.kind == 'j') {
                        tried.pop();
                    } else if ("mn-c+gkq".indexOf(m.kind) >= 0) {
                        isSet |= isBetween && m.n[0] == variable;
                    }
                }
                if (!isSet) {
                    throw new Fault('s', l.number);
                }
            }
        }
    }

    boolean isBarrier(Item item) {
        return item.all().stream().anyMatch(l -> "kqphvzed".indexOf(l.kind) >= 0
                || (l.kind == 'g' && fieldTypes.get(l.n[2]) != 's'));
    }

    static boolean uses(List<Line> lines, int variable) {
        return lines.stream().anyMatch(l -> Arrays.stream(variables(l)).anyMatch(v -> v == variable));
    }

    private static void findPutOff(List<Item> items, List<Item> found) {
        for (Item i : items) {
            if (i.line.kind == 'd') {
                found.add(i);
            }
            findPutOff(i.body, found);
            findPutOff(i.handler, found);
        }
    }

    static List<Item> putOff(Fn f) {
        List<Item> found = new ArrayList<>();
        findPutOff(f.tree, found);
        return found;
    }

    int lastLine(Fn f, int variable) {
        if (putOff(f).stream().anyMatch(i -> uses(i.all(), variable))) {
            return f.lines.size();
        }
        int last = -1;
        for (Item i : f.tree) {
            if (isBarrier(i) || uses(i.all(), variable)) {
                last = i.last();
            }
        }
        return last;
    }

    boolean isMove(Fn f, int line) {
        for (Item i : f.tree) {
            if (i.line.number == line && i.end == null) {
                int from = i.line.kind == 'c' ? i.line.n[1] : i.line.kind == 'f' ? i.line.n[2] : i.line.n[0];
                if (from == 0 && !f.isOwned) {
                    return false;
                }
                if (i.line.kind == 'r') {
                    return putOff(f).isEmpty();
                }
                boolean canMove = i.line.kind == 'c' || (i.line.kind == 'f' && fieldTypes.get(i.line.n[1]) == 's');
                return canMove && i.line.n[0] != from && lastLine(f, from) == line;
            }
        }
        return false;
    }

    // ---- counts

    void keep(Object value) {
        if (value instanceof Thing) {
            ((Thing) value).count++;
            kept++;
        }
    }

    void giveUp(Object value) {
        if (!(value instanceof Thing)) {
            return;
        }
        Thing t = (Thing) value;
        t.count--;
        givenUp++;
        if (t.count == 0) {
            for (Kind k = t.kind; k != null; k = k.parent) {
                deaths.add(k.code);
            }
            for (Kind k = t.kind; k != null; k = k.parent) {
                for (int field : new TreeSet<>(k.fields)) {
                    Object before = t.fields.remove(field);
                    if (fieldTypes.get(field) == 's') {
                        giveUp(before);
                    }
                }
            }
        }
    }

    Thing make(int kind) {
        Thing t = new Thing();
        t.kind = kinds.get(kind);
        things.add(t);
        return t;
    }

    static int shown(Object value) {
        return value == null ? -10000 : value instanceof Thing ? 10000 + ((Thing) value).kind.number : (Integer) value;
    }

    // ---- tasks

    TaskThread begin(int function, int kind, boolean isThrifty) {
        TaskThread t = new TaskThread(function, kind, isThrifty);
        tasks.add(t);
        t.start();
        t.await();
        return t;
    }

    /** Ends the threads of tasks that do not end by themselves. */
    void close() {
        tasks.forEach(Thread::interrupt);
    }

    static final class Call {
        Fn function;
        final Object[] values = new Object[6];
        boolean borrows;
        int at;
        final Deque<Item> putOff = new ArrayDeque<>();
    }

    final class TaskThread extends Thread {
        final int number = tasks.size();
        final boolean isThrifty;
        final int function;
        final Deque<Call> calls = new ArrayDeque<>();
        final List<Thing> inside = new ArrayList<>();
        private final SynchronousQueue<Boolean> goes = new SynchronousQueue<>();
        private final SynchronousQueue<Boolean> stands = new SynchronousQueue<>();
        Object parameter;
        boolean isOut;
        char state = 'r';
        char trap;
        int error;
        Object result;

        TaskThread(int function, int kind, boolean isThrifty) {
            this.function = function;
            this.isThrifty = isThrifty;
            this.parameter = kind < 0 ? null : make(kind);
            setDaemon(true);
        }

        void await() {
            try {
                stands.take();
            } catch (InterruptedException e) {
                throw new IllegalStateException(e);
            }
        }

        void step() {
            try {
                goes.put(true);
            } catch (InterruptedException e) {
                throw new IllegalStateException(e);
            }
            await();
        }

        @Override
        public void run() {
            try {
                Fn f = functions.get(function);
                char end = 'd';
                try {
                    result = called(f, parameter);
                } catch (Throws thrown) {
                    end = 'e';
                    error = thrown.error;
                } catch (Trap trapped) {
                    state = 't';
                    trap = trapped.why;
                    stands.put(true);
                    return;
                }
                if (!f.isOwned) {
                    giveUp(parameter);
                }
                state = end;
                stands.put(true);
            } catch (InterruptedException e) {
                state = '!';
            }
        }

        /** Stands ahead of a line until the next step. */
        private void tick(int line) throws InterruptedException {
            calls.peek().at = line;
            stands.put(true);
            goes.take();
            if (isOut) {
                isOut = false;
                inside.forEach(t -> t.occupant = number);
            }
        }

        private Object called(Fn f, Object value) throws InterruptedException {
            Call c = new Call();
            c.function = f;
            c.values[0] = value;
            c.borrows = !f.isOwned;
            calls.push(c);
            Leaves way = null;
            try {
                shorten(c, -1);
                for (Item i : f.tree) {
                    done(c, i);
                    shorten(c, i.last());
                }
                if (isOut) {
                    tick(f.lines.size());
                }
            } catch (Leaves leaves) {
                way = leaves;
            }
            while (!c.putOff.isEmpty()) {
                for (Item i : c.putOff.pop().body) {
                    c.at = i.line.number;
                    plain(c, i.line, false);
                }
            }
            for (int v = 5; v >= 0; v--) {
                set(c, v, null);
            }
            calls.pop();
            if (way instanceof Throws) {
                throw way;
            }
            return way == null ? null : ((Returns) way).value;
        }

        private void shorten(Call c, int line) {
            for (int v = 0; v < 6 && isThrifty; v++) {
                if (lastLine(c.function, v) == line) {
                    set(c, v, null);
                }
            }
        }

        private void set(Call c, int variable, Object value) {
            Object before = variable == 0 && c.borrows ? null : c.values[variable];
            c.values[variable] = value;
            c.borrows &= variable != 0;
            giveUp(before);
        }

        private Object take(Call c, int variable, boolean isMove) {
            Object value = c.values[variable];
            if (isMove) {
                c.values[variable] = null;
            } else {
                keep(value);
            }
            return value;
        }

        private Thing thing(Object value) {
            if (value instanceof Thing) {
                return (Thing) value;
            }
            throw new Trap('n');
        }

        private Thing withField(Object value, int field, boolean isRead) {
            Thing t = thing(value);
            if (!t.kind.has(field)) {
                throw new Trap('f');
            }
            Object held = t.fields.get(field);
            if (isRead && fieldTypes.get(field) == 'u' && held instanceof Thing && ((Thing) held).count == 0) {
                throw new Trap('u');
            }
            if (t.exclusive.contains(field)) {
                throw new Trap('x');
            }
            return t;
        }

        private int number(Object value) {
            if (value instanceof Integer) {
                return (Integer) value;
            }
            throw new Trap('t');
        }

        private void plain(Call c, Line l, boolean isMove) {
            int a = l.n[0];
            int b = l.n[1];
            int d = l.n[2];
            if (l.kind == 'm') {
                if (things.size() == 150) {
                    throw new Trap('m');
                }
                set(c, a, make(b));
            } else if (l.kind == 'n') {
                set(c, a, b);
            } else if (l.kind == '-') {
                set(c, a, null);
            } else if (l.kind == 'c') {
                set(c, a, take(c, b, isMove));
            } else if (l.kind == '+') {
                set(c, a, (number(c.values[b]) + number(c.values[d])) % 10000);
            } else if (l.kind == 'g') {
                Object read = withField(c.values[b], d, true).fields.get(d);
                if (fieldTypes.get(d) == 'w' && read != null && ((Thing) read).count == 0) {
                    read = null;
                }
                keep(read);
                set(c, a, read);
            } else if (l.kind == 'f') {
                Thing t = withField(c.values[a], b, false);
                if (fieldTypes.get(b) != 's') {
                    if (c.values[d] instanceof Integer) {
                        throw new Trap('t');
                    }
                    t.fields.put(b, c.values[d]);
                } else {
                    giveUp(t.fields.put(b, take(c, d, isMove)));
                }
            } else if (l.kind == 'p') {
                prints.add(shown(c.values[a]));
            }
        }

        private void all(Call c, List<Item> items) throws InterruptedException {
            for (Item i : items) {
                done(c, i);
            }
        }

        private void call(Call c, int g, Line l) throws InterruptedException {
            if (calls.size() - 1 >= 8) {
                throw new Trap('d');
            }
            Fn f = functions.get(g);
            Object value = c.values[l.n[2]];
            if (f.isOwned) {
                keep(value);
            }
            set(c, l.n[0], called(f, value));
        }

        private void done(Call c, Item i) throws InterruptedException {
            Line l = i.line;
            tick(l.number);
            boolean isMove = isThrifty && isMove(c.function, l.number);
            switch (l.kind) {
                case '?':
                    if (c.values[l.n[0]] != null) {
                        all(c, i.body);
                        tick(i.end.number);
                    }
                    break;
                case 'l':
                    for (int turn = 0; turn < l.n[0]; turn++) {
                        all(c, i.body);
                        tick(i.end.number);
                    }
                    break;
                case 'y':
                    tried(c, i);
                    break;
                case 'd':
                    c.putOff.push(i);
                    break;
                case 'e':
                    accessed(c, i);
                    break;
                case 'v':
                    entered(c, i);
                    break;
                case 'z':
                    inside.forEach(t -> t.occupant = null);
                    isOut = true;
                    break;
                case 'k':
                    call(c, l.n[1], l);
                    break;
                case 'q':
                    Integer g = witness(thing(c.values[l.n[2]]).kind, l.n[1]);
                    if (g == null) {
                        throw new Trap('p');
                    }
                    call(c, g, l);
                    break;
                case 'r':
                    Returns returns = new Returns();
                    returns.value = take(c, l.n[0], isMove);
                    throw returns;
                case 'h':
                    Throws thrown = new Throws();
                    thrown.error = l.n[0];
                    throw thrown;
                default:
                    plain(c, l, isMove);
                    break;
            }
        }

        private void tried(Call c, Item i) throws InterruptedException {
            boolean isThrown = false;
            try {
                all(c, i.body);
                tick(i.other.number);
            } catch (Throws thrown) {
                isThrown = true;
                set(c, i.line.n[0], thrown.error);
            }
            if (isThrown) {
                all(c, i.handler);
                tick(i.end.number);
            }
        }

        private void accessed(Call c, Item i) throws InterruptedException {
            int field = i.line.n[1];
            Thing t = withField(c.values[i.line.n[0]], field, false);
            t.exclusive.add(field);
            accesses++;
            Leaves way = null;
            try {
                all(c, i.body);
                tick(i.end.number);
            } catch (Leaves leaves) {
                way = leaves;
            }
            t.exclusive.remove(field);
            accesses--;
            if (way != null) {
                throw way;
            }
        }

        private void entered(Call c, Item i) throws InterruptedException {
            Thing t = thing(c.values[i.line.n[0]]);
            if (!t.kind.acts()) {
                throw new Trap('t');
            }
            inside.add(t);
            t.occupant = number;
            Leaves way = null;
            try {
                all(c, i.body);
                tick(i.end.number);
            } catch (Leaves leaves) {
                way = leaves;
            }
            inside.remove(inside.size() - 1);
            t.occupant = inside.contains(t) ? number : null;
            if (way != null) {
                throw way;
            }
        }
    }
}
