import java.util.Arrays;
import java.util.NoSuchElementException;

/**
 * A small language in which objects live as long as something owns them. The promises that this
 * class keeps stand in the document DOC.md.
 */
public final class ArcKeeper {
    private static final int MAX_KINDS = 8;
    private static final int MAX_FIELDS = 12;
    private static final int MAX_PROTOCOLS = 4;
    private static final int MAX_REQUIREMENTS = 8;
    private static final int MAX_FUNCTIONS = 8;
    private static final int MAX_LINES = 24;
    private static final int MAX_TASKS = 6;
    private static final int MAX_OBJECTS = 150;
    private static final int MAX_CODE = 999;
    private static final int MAX_STEPS = 100;
    private static final int VARIABLES = 6;

    /** A part needs two lines at least, so that no more can be open at once. */
    private static final int MAX_PARTS = MAX_LINES / 2;

    /** The first function and eight calls. */
    private static final int MAX_FRAMES = 9;

    /** A bound for loops whose end the document tells only through the number of steps. */
    private static final int FAR = 1000000;

    /** A value is NONE, a number between NONE and FIRST_OBJECT, or FIRST_OBJECT plus the object. */
    private static final int NONE = -10000;

    private static final int FIRST_OBJECT = 10000;

    private static final char FINE = '-';

    /** The kinds of lines, and for each of them what its three numbers are. */
    private static final String LINE_KINDS = "mn-c+gfp?lkqrhyodevzj";

    private static final String LINE_SHAPES =
            "vk.vn.v..vv.vvvvvfvfvv..v..t..vgvvrvv..h..v........vf.v........";

    private final Kinds kinds;
    private final Function blank;
    private final Function[] functions;
    private final Checker checker;
    private final Thrift thrift;
    private final Heap heap;
    private final Log printed;
    private final Task idle;
    private final Task[] tasks;
    private final Runner runner;
    private final Row owners;
    private int functionCount;
    private int taskCount;

    public ArcKeeper() {
        kinds = new Kinds();
        blank = new Function();
        functions = new Function[MAX_FUNCTIONS];
        for (int i = 0; i < functions.length; i++) {
            functions[i] = new Function();
        }
        checker = new Checker();
        thrift = new Thrift(kinds);
        heap = new Heap(kinds);
        printed = new Log();
        idle = new Task(-1, blank);
        tasks = new Task[MAX_TASKS];
        for (int i = 0; i < tasks.length; i++) {
            tasks[i] = new Task(i, blank);
        }
        runner = new Runner(kinds, functions, heap, printed);
        owners = new Row(MAX_OBJECTS, 0);
    }

    // ---- kinds and protocols

    public int addKind(int parent, boolean isActor) throws IllegalArgumentException, IllegalStateException {
        if (parent != -1 && !isBelow(parent, kinds.kindCount)) {
            throw new IllegalArgumentException("no such parent");
        }
        needRoom(kinds.kindCount, MAX_KINDS);
        return kinds.newKind(parent, isActor);
    }

    public int addField(int kind, char type)
            throws IndexOutOfBoundsException, IllegalArgumentException, IllegalStateException {
        needIndex(kind, kinds.kindCount);
        if (type != 's' && type != 'w' && type != 'u') {
            throw new IllegalArgumentException("no such type");
        }
        needRoom(kinds.fieldCount, MAX_FIELDS);
        return kinds.newField(kind, type);
    }

    public int setCode(int kind, int code)
            throws IndexOutOfBoundsException, IllegalArgumentException, IllegalStateException {
        needIndex(kind, kinds.kindCount);
        if (code < 0 || code > MAX_CODE) {
            throw new IllegalArgumentException("no such code");
        }
        needNoTask();
        int before = kinds.codes.get(kind);
        kinds.codes.set(kind, code);
        return before;
    }

    public int addProtocol() throws IllegalStateException {
        needRoom(kinds.protocolCount, MAX_PROTOCOLS);
        return kinds.newProtocol();
    }

    public int addRequirement(int protocol) throws IndexOutOfBoundsException, IllegalStateException {
        needIndex(protocol, kinds.protocolCount);
        needRoom(kinds.requirementCount, MAX_REQUIREMENTS);
        return kinds.newRequirement(protocol);
    }

    public boolean conform(int kind, int protocol, int condition)
            throws IndexOutOfBoundsException, IllegalArgumentException, IllegalStateException {
        needIndex(kind, kinds.kindCount);
        needIndex(protocol, kinds.protocolCount);
        if (condition != -1 && !isBelow(condition, kinds.protocolCount)) {
            throw new IllegalArgumentException("no such condition");
        }
        needNoTask();
        return kinds.tell(kind, protocol, condition);
    }

    public boolean setWitness(int kind, int requirement, int function)
            throws IndexOutOfBoundsException, IllegalStateException {
        needIndex(kind, kinds.kindCount);
        needIndex(requirement, kinds.requirementCount);
        needIndex(function, functionCount);
        needNoTask();
        int place = kind * MAX_REQUIREMENTS + requirement;
        boolean had = kinds.witnesses.get(place) >= 0;
        kinds.witnesses.set(place, function);
        return had;
    }

    public boolean setDefault(int requirement, int function)
            throws IndexOutOfBoundsException, IllegalStateException {
        needIndex(requirement, kinds.requirementCount);
        needIndex(function, functionCount);
        needNoTask();
        boolean had = kinds.defaults.get(requirement) >= 0;
        kinds.defaults.set(requirement, function);
        return had;
    }

    public boolean conforms(int kind, int protocol) throws IndexOutOfBoundsException {
        needIndex(kind, kinds.kindCount);
        needIndex(protocol, kinds.protocolCount);
        return Kinds.hasBit(kinds.all.get(kind), protocol);
    }

    public int witnessOf(int kind, int requirement) throws IndexOutOfBoundsException, NoSuchElementException {
        needIndex(kind, kinds.kindCount);
        needIndex(requirement, kinds.requirementCount);
        int witness = kinds.witness(kind, requirement);
        if (witness < 0) {
            throw new NoSuchElementException("the requirement is not met");
        }
        return witness;
    }

    // ---- functions

    public int addFunction(boolean isOwned) throws IllegalStateException {
        needRoom(functionCount, MAX_FUNCTIONS);
        int number = functionCount;
        functionAt(number).isOwner = isOwned;
        functionCount++;
        return number;
    }

    public int addLine(int function, char kind, int a, int b, int c)
            throws IndexOutOfBoundsException, IllegalArgumentException, IllegalStateException {
        Function f = knownFunction(function);
        if (LINE_KINDS.indexOf(kind) < 0
                || !isInRange(Function.shape(kind, 0), a)
                || !isInRange(Function.shape(kind, 1), b)
                || !isInRange(Function.shape(kind, 2), c)) {
            throw new IllegalArgumentException("no such line");
        }
        needRoom(f.size, MAX_LINES);
        int line = f.append(kind, a, b, c);
        checker.review(f);
        if (f.fault == FINE) {
            thrift.plan(f);
        }
        return line;
    }

    public int lines(int function) throws IndexOutOfBoundsException {
        return knownFunction(function).size;
    }

    public char check(int function) throws IndexOutOfBoundsException {
        return knownFunction(function).fault;
    }

    public int checkAt(int function) throws IndexOutOfBoundsException, NoSuchElementException {
        Function f = knownFunction(function);
        if (f.fault == FINE) {
            throw new NoSuchElementException("no fault");
        }
        return f.faultAt;
    }

    public int lastLine(int function, int variable)
            throws IndexOutOfBoundsException, IllegalArgumentException, UnsupportedOperationException {
        Function f = knownFunction(function);
        if (!isBelow(variable, VARIABLES)) {
            throw new IllegalArgumentException("no such variable");
        }
        needNoFault(f);
        return f.lasts.get(variable);
    }

    public boolean isMove(int function, int line) throws IndexOutOfBoundsException, UnsupportedOperationException {
        Function f = knownFunction(function);
        needIndex(line, f.size);
        needNoFault(f);
        return f.moves(line);
    }

    // ---- tasks

    public int begin(int function, int kind, boolean isThrifty)
            throws IndexOutOfBoundsException, IllegalStateException, UnsupportedOperationException {
        Function f = knownFunction(function);
        if (kind != -1) {
            needIndex(kind, kinds.kindCount);
        }
        if (taskCount >= MAX_TASKS || (kind != -1 && heap.isFull())) {
            throw new IllegalStateException("no room for the task or its object");
        }
        for (int i = 0; i < functionCount; i++) {
            needNoFault(functionAt(i));
        }
        int number = taskCount;
        taskCount++;
        Task t = taskAt(number);
        t.isThrifty = isThrifty;
        t.enterFirst(f, kind == -1 ? NONE : heap.newObject(kind));
        runner.settle(t);
        return number;
    }

    public int step(int task, int steps)
            throws IndexOutOfBoundsException, IllegalArgumentException, IllegalStateException {
        Task t = knownTask(task);
        if (steps < 1 || steps > MAX_STEPS) {
            throw new IllegalArgumentException("no such number of steps");
        }
        if (!t.canGoOn()) {
            throw new IllegalStateException("the task has ended");
        }
        int count = 0;
        while (count < steps && t.canGoOn()) {
            count++;
            if (runner.isBack(t)) {
                runner.doLine(t);
            }
            runner.settle(t);
        }
        t.stepCount += count;
        return count;
    }

    public char state(int task) throws IndexOutOfBoundsException {
        return knownTask(task).condition;
    }

    public char trap(int task) throws IndexOutOfBoundsException, NoSuchElementException {
        Task t = knownTask(task);
        if (t.condition != 't') {
            throw new NoSuchElementException("the task was not trapped");
        }
        return t.cause;
    }

    public int error(int task) throws IndexOutOfBoundsException, NoSuchElementException {
        Task t = knownTask(task);
        if (t.condition != 'e') {
            throw new NoSuchElementException("the task did not end with an error");
        }
        return t.carried;
    }

    public int at(int task) throws IndexOutOfBoundsException, NoSuchElementException {
        Task t = knownTask(task);
        if (t.condition == 'd' || t.condition == 'e') {
            throw new NoSuchElementException("the task has ended");
        }
        return t.condition == 't' ? t.causeLine : t.top().line;
    }

    public int depth(int task) throws IndexOutOfBoundsException {
        return knownTask(task).frameCount;
    }

    public int result(int task) throws IndexOutOfBoundsException, NoSuchElementException {
        Task t = knownTask(task);
        if (t.condition != 'd') {
            throw new NoSuchElementException("the task is not done");
        }
        return heap.shown(t.carried);
    }

    // ---- objects

    public int made() {
        return heap.objectCount;
    }

    public int alive() {
        int count = 0;
        for (int object = 0; object < heap.objectCount; object++) {
            if (heap.counts.get(object) > 0) {
                count++;
            }
        }
        return count;
    }

    public boolean isAlive(int object) throws IndexOutOfBoundsException {
        needIndex(object, heap.objectCount);
        return heap.counts.get(object) > 0;
    }

    public int kindOf(int object) throws IndexOutOfBoundsException {
        needIndex(object, heap.objectCount);
        return heap.objectKinds.get(object);
    }

    public int countOf(int object) throws IndexOutOfBoundsException {
        needIndex(object, heap.objectCount);
        return heap.counts.get(object);
    }

    public int ownersOf(int object) throws IndexOutOfBoundsException {
        needIndex(object, heap.objectCount);
        countOwners();
        return owners.get(object);
    }

    public int occupiedBy(int object) throws IndexOutOfBoundsException, NoSuchElementException {
        needIndex(object, heap.objectCount);
        int task = heap.occupants.get(object);
        if (task < 0) {
            throw new NoSuchElementException("no task is in it");
        }
        return task;
    }

    public int accesses() {
        return heap.accessCount;
    }

    // ---- what happened

    public int prints() {
        return printed.size;
    }

    public int printAt(int index) throws IndexOutOfBoundsException {
        needIndex(index, printed.size);
        return printed.get(index);
    }

    public int deaths() {
        return heap.deathCodes.size;
    }

    public int deathAt(int index) throws IndexOutOfBoundsException {
        needIndex(index, heap.deathCodes.size);
        return heap.deathCodes.get(index);
    }

    public long kept() {
        return heap.raised;
    }

    public long givenUp() {
        return heap.lowered;
    }

    public float moveShare(int function)
            throws IndexOutOfBoundsException, UnsupportedOperationException, ArithmeticException {
        Function f = knownFunction(function);
        needNoFault(f);
        if (f.size == 0) {
            throw new ArithmeticException("no lines");
        }
        int moves = 0;
        for (int line = 0; line < f.size; line++) {
            if (f.moves(line)) {
                moves++;
            }
        }
        return (float) moves / (float) f.size;
    }

    public double meanSteps() throws ArithmeticException {
        if (taskCount == 0) {
            throw new ArithmeticException("no tasks");
        }
        int sum = 0;
        for (int task = 0; task < taskCount; task++) {
            sum += taskAt(task).stepCount;
        }
        return (double) sum / (double) taskCount;
    }

    public boolean isSound() {
        countOwners();
        for (int object = 0; object < heap.objectCount; object++) {
            int count = heap.counts.get(object);
            if (count != 0 && (count < 0 || count != owners.get(object))) {
                return false;
            }
            if (!isOccupiedSoundly(object)) {
                return false;
            }
        }
        return !heap.holdsDead();
    }

    // ---- what must hold ahead of a call

    private static boolean isBelow(int index, int count) {
        return index >= 0 && index < count;
    }

    private static void needIndex(int index, int count) {
        if (!isBelow(index, count)) {
            throw new IndexOutOfBoundsException("no such number");
        }
    }

    private void needNoTask() {
        if (taskCount > 0) {
            throw new IllegalStateException("a task was begun");
        }
    }

    private void needRoom(int count, int most) {
        if (count >= most || taskCount > 0) {
            throw new IllegalStateException("no room, or a task was begun");
        }
    }

    private static void needNoFault(Function f) {
        if (f.fault != FINE) {
            throw new UnsupportedOperationException("checking finds a fault");
        }
    }

    private Function knownFunction(int number) {
        needIndex(number, functionCount);
        return functionAt(number);
    }

    private Task knownTask(int number) {
        needIndex(number, taskCount);
        return taskAt(number);
    }

    private Function functionAt(int number) {
        Function found = isBelow(number, functions.length) ? functions[number] : null;
        return found == null ? blank : found;
    }

    private Task taskAt(int number) {
        Task found = isBelow(number, tasks.length) ? tasks[number] : null;
        return found == null ? idle : found;
    }

    private boolean isInRange(char shape, int number) {
        switch (shape) {
            case 'v':
                return isBelow(number, VARIABLES);
            case 'k':
                return isBelow(number, kinds.kindCount);
            case 'f':
                return isBelow(number, kinds.fieldCount);
            case 'g':
                return isBelow(number, functionCount);
            case 'r':
                return isBelow(number, kinds.requirementCount);
            case 'n':
                return number >= -999 && number <= 999;
            case 't':
                return number >= 1 && number <= 5;
            case 'h':
                return number >= 1 && number <= 9;
            default:
                return true;
        }
    }

    // ---- looking at all owners and actors

    private void countOwners() {
        for (int object = 0; object < heap.objectCount; object++) {
            owners.set(object, 0);
        }
        for (int object = 0; object < heap.objectCount; object++) {
            for (int field = 0; field < kinds.fieldCount; field++) {
                if (kinds.isStrong(field)) {
                    countOwner(heap.fieldValue(object, field));
                }
            }
        }
        for (int task = 0; task < taskCount; task++) {
            countOwnersIn(taskAt(task));
        }
    }

    private void countOwnersIn(Task t) {
        countOwner(t.held);
        if (t.leaving == Task.RETURNS) {
            countOwner(t.carried);
        }
        for (int level = 0; level < t.frameCount; level++) {
            Frame f = t.frameAt(level);
            for (int variable = 0; variable < VARIABLES; variable++) {
                countOwner(f.ownedValue(variable));
            }
        }
    }

    private void countOwner(int value) {
        if (isObject(value)) {
            owners.raise(value - FIRST_OBJECT, 1);
        }
    }

    /** A task that is done or ended with an error has left all its parts, so that it is in no actor. */
    private boolean isOccupiedSoundly(int object) {
        int occupant = heap.occupants.get(object);
        for (int i = 0; i < taskCount; i++) {
            if (taskAt(i).isIn(object) != (occupant == i)) {
                return false;
            }
        }
        return true;
    }

    private static boolean isObject(int value) {
        return value >= FIRST_OBJECT;
    }

    private static boolean isNumber(int value) {
        return value > NONE && value < FIRST_OBJECT;
    }

    /** A row of whole numbers of one length; a place outside it reads as 0 and is never written. */
    private static final class Row {
        private final int[] cells;

        Row(int length, int first) {
            cells = new int[Math.max(0, length)];
            for (int i = 0; i < cells.length; i++) {
                cells[i] = first;
            }
        }

        int get(int place) {
            return place >= 0 && place < cells.length ? cells[place] : 0;
        }

        void set(int place, int value) {
            if (place >= 0 && place < cells.length) {
                cells[place] = value;
            }
        }

        void raise(int place, int by) {
            if (place >= 0 && place < cells.length) {
                cells[place] += by;
            }
        }
    }

    /** Numbers one behind the other, as many as come. */
    private static final class Log {
        /** Far above what 512 calls of 100 steps can note. */
        private static final int MOST = 1 << 21;

        private int[] cells = new int[16];
        private int size = 0;

        int get(int place) {
            return place >= 0 && place < size && place < cells.length ? cells[place] : 0;
        }

        void add(int value) {
            if (size >= cells.length && cells.length <= MOST / 2) {
                cells = Arrays.copyOf(cells, cells.length * 2);
            }
            if (size >= 0 && size < cells.length) {
                cells[size] = value;
                size++;
            }
        }

        int takeLast() {
            int last = get(size - 1);
            size = Math.max(0, size - 1);
            return last;
        }
    }

    /** The kinds with their fields and codes, and the protocols to which they conform. */
    private static final class Kinds {
        private static final int NOT_TOLD = -2;
        private static final int ALWAYS = -1;

        /** One place more than there can be fields, so that each row of fields ends with -1. */
        private static final int ORDER_WIDTH = MAX_FIELDS + 1;

        private final Row parents = new Row(MAX_KINDS, -1);
        private final Row actors = new Row(MAX_KINDS, 0);
        private final Row codes = new Row(MAX_KINDS, 0);
        private final Row fieldKinds = new Row(MAX_FIELDS, -1);
        private final Row fieldTypes = new Row(MAX_FIELDS, 0);
        private final Row fieldOrder = new Row(MAX_KINDS * ORDER_WIDTH, -1);
        private final Row conditions = new Row(MAX_KINDS * MAX_PROTOCOLS, NOT_TOLD);
        private final Row requirementProtocols = new Row(MAX_REQUIREMENTS, -1);
        private final Row witnesses = new Row(MAX_KINDS * MAX_REQUIREMENTS, -1);
        private final Row defaults = new Row(MAX_REQUIREMENTS, -1);

        /** For each kind, a bit for each protocol to which it conforms, and by what it was told itself. */
        private final Row all = new Row(MAX_KINDS, 0);

        private final Row own = new Row(MAX_KINDS, 0);
        private int kindCount = 0;
        private int fieldCount = 0;
        private int protocolCount = 0;
        private int requirementCount = 0;

        int newKind(int parent, boolean isActor) {
            int number = kindCount;
            parents.set(number, parent);
            actors.set(number, isActor ? 1 : 0);
            kindCount++;
            orderFields();
            findConformances();
            return number;
        }

        int newField(int kind, char type) {
            int number = fieldCount;
            fieldKinds.set(number, kind);
            fieldTypes.set(number, type);
            fieldCount++;
            orderFields();
            return number;
        }

        int newProtocol() {
            int number = protocolCount;
            protocolCount++;
            return number;
        }

        int newRequirement(int protocol) {
            int number = requirementCount;
            requirementProtocols.set(number, protocol);
            requirementCount++;
            return number;
        }

        boolean tell(int kind, int protocol, int condition) {
            int place = kind * MAX_PROTOCOLS + protocol;
            boolean wasTold = conditions.get(place) != NOT_TOLD;
            conditions.set(place, condition);
            findConformances();
            return wasTold;
        }

        /** The fields of each kind in the order in which they are given up. */
        private void orderFields() {
            for (int kind = 0; kind < kindCount; kind++) {
                int place = kind * ORDER_WIDTH;
                for (int k = kind, levels = 0; k >= 0 && levels < MAX_KINDS; k = parents.get(k), levels++) {
                    for (int field = 0; field < fieldCount; field++) {
                        if (fieldKinds.get(field) == k) {
                            fieldOrder.set(place, field);
                            place++;
                        }
                    }
                }
            }
        }

        /** A parent has a lower number than its kinds, so that one way up the numbers is enough. */
        private void findConformances() {
            for (int kind = 0; kind < kindCount; kind++) {
                int parent = parents.get(kind);
                int above = parent >= 0 ? all.get(parent) : 0;
                int told = 0;
                for (int protocol = 0; protocol < MAX_PROTOCOLS; protocol++) {
                    int condition = conditions.get(kind * MAX_PROTOCOLS + protocol);
                    if (condition == ALWAYS || (condition >= 0 && hasBit(above, condition))) {
                        told |= 1 << protocol;
                    }
                }
                own.set(kind, told);
                all.set(kind, told | above);
            }
        }

        static boolean hasBit(int bits, int place) {
            return (bits >> place & 1) != 0;
        }

        int fieldInOrder(int kind, int place) {
            return fieldOrder.get(kind * ORDER_WIDTH + place);
        }

        boolean isStrong(int field) {
            return fieldTypes.get(field) == 's';
        }

        boolean hasField(int kind, int field) {
            for (int k = kind, levels = 0; k >= 0 && levels < MAX_KINDS; k = parents.get(k), levels++) {
                if (fieldKinds.get(field) == k) {
                    return true;
                }
            }
            return false;
        }

        boolean isActorKind(int kind) {
            for (int k = kind, levels = 0; k >= 0 && levels < MAX_KINDS; k = parents.get(k), levels++) {
                if (actors.get(k) != 0) {
                    return true;
                }
            }
            return false;
        }

        /** The function by which the kind meets the requirement, -1 if there is none. */
        int witness(int kind, int requirement) {
            int protocol = requirementProtocols.get(requirement);
            for (int k = kind, levels = 0; k >= 0 && levels < MAX_KINDS; k = parents.get(k), levels++) {
                int function = witnesses.get(k * MAX_REQUIREMENTS + requirement);
                if (function >= 0 && hasBit(own.get(k), protocol)) {
                    return function;
                }
            }
            return hasBit(all.get(kind), protocol) ? defaults.get(requirement) : -1;
        }
    }

    /** A function: its lines, and what the checker and the thrift found out about them. */
    private static final class Function {
        private final Row kindsOfLines = new Row(MAX_LINES, 0);
        private final Row as = new Row(MAX_LINES, 0);
        private final Row bs = new Row(MAX_LINES, 0);
        private final Row cs = new Row(MAX_LINES, 0);

        /** For each line that starts a part the line that ends it, and the other way round. */
        private final Row ends = new Row(MAX_LINES, -1);

        private final Row starts = new Row(MAX_LINES, -1);
        private final Row lasts = new Row(VARIABLES, -1);
        private final Row moving = new Row(MAX_LINES, 0);
        private boolean isOwner = false;
        private boolean putsOff = false;
        private int size = 0;
        private char fault = FINE;
        private int faultAt = 0;

        /** What the number of a line is at a place: a letter of LINE_SHAPES, a point if it has no meaning. */
        static char shape(char kind, int place) {
            int row = LINE_KINDS.indexOf(kind);
            int index = row * 3 + place;
            return row >= 0 && place >= 0 && index < LINE_SHAPES.length() ? LINE_SHAPES.charAt(index) : '.';
        }

        int append(char kind, int a, int b, int c) {
            int line = size;
            kindsOfLines.set(line, kind);
            as.set(line, a);
            bs.set(line, b);
            cs.set(line, c);
            size++;
            return line;
        }

        char kindAt(int line) {
            return (char) kindsOfLines.get(line);
        }

        int a(int line) {
            return as.get(line);
        }

        int b(int line) {
            return bs.get(line);
        }

        int c(int line) {
            return cs.get(line);
        }

        boolean uses(int line, int variable) {
            char kind = kindAt(line);
            return (shape(kind, 0) == 'v' && a(line) == variable)
                    || (shape(kind, 1) == 'v' && b(line) == variable)
                    || (shape(kind, 2) == 'v' && c(line) == variable);
        }

        boolean moves(int line) {
            return moving.get(line) != 0;
        }

        /** The last line of the part that starts at a line; that line itself if it starts none. */
        int lastOfPart(int line) {
            int end = ends.get(line);
            if (kindAt(line) == 'y') {
                end = ends.get(end);
            }
            return Math.max(line, end);
        }

        boolean isBorrowed(int variable) {
            return variable == 0 && !isOwner;
        }
    }

    /** Finds the first fault of a function, and which lines its parts start and end with. */
    private static final class Checker {
        private final Row open = new Row(MAX_LINES, 0);
        private int openCount = 0;

        void review(Function f) {
            openCount = 0;
            f.fault = FINE;
            for (int line = 0; line < f.size; line++) {
                char fault = faultOf(f, line);
                if (fault != FINE) {
                    f.fault = fault;
                    f.faultAt = line;
                    return;
                }
                follow(f, line);
            }
            if (openCount > 0) {
                f.fault = 'b';
                f.faultAt = f.size;
            }
        }

        private char faultOf(Function f, int line) {
            char kind = f.kindAt(line);
            char around = openCount > 0 ? f.kindAt(open.get(openCount - 1)) : '.';
            if (kind == 'j' && (openCount == 0 || around == 'y')) {
                return 'b';
            }
            if (kind == 'o' && around != 'y') {
                return 'b';
            }
            if (around == 'd' && kind != 'j' && !isPlain(kind)) {
                return 'd';
            }
            return accessesAgain(f, line) ? 's' : FINE;
        }

        /** The kinds of lines that may stand in a part that is put off. */
        static boolean isPlain(char kind) {
            switch (kind) {
                case 'm':
                case 'n':
                case '-':
                case 'c':
                case '+':
                case 'g':
                case 'f':
                case 'p':
                    return true;
                default:
                    return false;
            }
        }

        private boolean accessesAgain(Function f, int line) {
            char kind = f.kindAt(line);
            if (kind != 'g' && kind != 'f' && kind != 'e') {
                return false;
            }
            int variable = kind == 'g' ? f.b(line) : f.a(line);
            int field = kind == 'g' ? f.c(line) : f.b(line);
            for (int i = 0; i < openCount; i++) {
                int start = open.get(i);
                if (f.kindAt(start) == 'e' && f.a(start) == variable && f.b(start) == field
                        && !isSetBetween(f, start, line, variable)) {
                    return true;
                }
            }
            return false;
        }

        private boolean isSetBetween(Function f, int before, int behind, int variable) {
            for (int line = before + 1; line < behind; line++) {
                if (variableSetBy(f, line) == variable) {
                    return true;
                }
            }
            return false;
        }

        private int variableSetBy(Function f, int line) {
            switch (f.kindAt(line)) {
                case 'm':
                case 'n':
                case '-':
                case 'c':
                case '+':
                case 'g':
                case 'k':
                case 'q':
                    return f.a(line);
                case 'o':
                    // The variable of the 'y' becomes the error here, not at the 'y'.
                    return f.a(f.starts.get(line));
                default:
                    return -1;
            }
        }

        private void follow(Function f, int line) {
            char kind = f.kindAt(line);
            f.ends.set(line, -1);
            f.starts.set(line, -1);
            if ((kind == 'j' || kind == 'o') && openCount > 0) {
                openCount--;
                int start = open.get(openCount);
                f.ends.set(start, line);
                f.starts.set(line, start);
            }
            if (isStart(kind)) {
                open.set(openCount, line);
                openCount++;
            }
        }

        static boolean isStart(char kind) {
            switch (kind) {
                case '?':
                case 'l':
                case 'y':
                case 'o':
                case 'd':
                case 'e':
                case 'v':
                    return true;
                default:
                    return false;
            }
        }
    }

    /** Finds out where the thrifty way gives up the variables of a function, and which lines move. */
    private static final class Thrift {
        private final Kinds kinds;

        Thrift(Kinds kinds) {
            this.kinds = kinds;
        }

        void plan(Function f) {
            f.putsOff = false;
            for (int variable = 0; variable < VARIABLES; variable++) {
                f.lasts.set(variable, -1);
            }
            int next = 0;
            for (int line = 0; line < f.size; line++) {
                if (line == next) {
                    weighPart(f, line, f.lastOfPart(line));
                    next = f.lastOfPart(line) + 1;
                }
            }
            for (int line = 0; line < f.size; line++) {
                if (f.kindAt(line) == 'd') {
                    f.putsOff = true;
                    excuse(f, line, f.lastOfPart(line));
                }
            }
            findMoves(f);
        }

        private void weighPart(Function f, int first, int last) {
            for (int line = first; line <= last; line++) {
                boolean isBarrier = isBarrier(f, line);
                for (int variable = 0; variable < VARIABLES; variable++) {
                    if (isBarrier || f.uses(line, variable)) {
                        f.lasts.set(variable, last);
                    }
                }
            }
        }

        private boolean isBarrier(Function f, int line) {
            switch (f.kindAt(line)) {
                case 'g':
                    return !kinds.isStrong(f.c(line));
                case 'k':
                case 'q':
                case 'p':
                case 'h':
                case 'v':
                case 'z':
                case 'e':
                case 'd':
                    return true;
                default:
                    return false;
            }
        }

        /** What a part that is put off uses must live until the function is left. */
        private void excuse(Function f, int first, int last) {
            for (int line = first; line <= last; line++) {
                for (int variable = 0; variable < VARIABLES; variable++) {
                    if (f.uses(line, variable)) {
                        f.lasts.set(variable, f.size);
                    }
                }
            }
        }

        private void findMoves(Function f) {
            int next = 0;
            for (int line = 0; line < f.size; line++) {
                boolean isOutside = line == next;
                f.moving.set(line, isOutside && isMoving(f, line) ? 1 : 0);
                if (isOutside) {
                    next = f.lastOfPart(line) + 1;
                }
            }
        }

        private boolean isMoving(Function f, int line) {
            switch (f.kindAt(line)) {
                case 'c':
                    return f.a(line) != f.b(line) && isGivenUpBehind(f, line, f.b(line));
                case 'f':
                    return kinds.isStrong(f.b(line)) && f.a(line) != f.c(line)
                            && isGivenUpBehind(f, line, f.c(line));
                case 'r':
                    return !f.isBorrowed(f.a(line)) && !f.putsOff;
                default:
                    return false;
            }
        }

        private boolean isGivenUpBehind(Function f, int line, int variable) {
            return f.lasts.get(variable) == line && !f.isBorrowed(variable);
        }
    }

    /** The objects with their counts and fields, who accesses and occupies them, and their deaths. */
    private static final class Heap {
        private final Kinds kinds;
        private final Row objectKinds = new Row(MAX_OBJECTS, 0);
        private final Row counts = new Row(MAX_OBJECTS, 0);
        private final Row values = new Row(MAX_OBJECTS * MAX_FIELDS, NONE);
        private final Row exclusive = new Row(MAX_OBJECTS * MAX_FIELDS, 0);
        private final Row occupants = new Row(MAX_OBJECTS, -1);

        /** How many parts of the occupant are in the actor. */
        private final Row entries = new Row(MAX_OBJECTS, 0);

        /** The objects whose fields are being given up, each with how many of them were. */
        private final Row dying = new Row(MAX_OBJECTS, 0);

        private final Row cleared = new Row(MAX_OBJECTS, 0);
        private final Log deathCodes = new Log();
        private int objectCount = 0;
        private int accessCount = 0;
        private long raised = 0;
        private long lowered = 0;

        Heap(Kinds kinds) {
            this.kinds = kinds;
        }

        boolean isFull() {
            return objectCount >= MAX_OBJECTS;
        }

        /** Makes an object, which is owned once, and answers it as a value. */
        int newObject(int kind) {
            int object = objectCount;
            objectKinds.set(object, kind);
            counts.set(object, 1);
            objectCount++;
            return FIRST_OBJECT + object;
        }

        int kindOfValue(int value) {
            return objectKinds.get(value - FIRST_OBJECT);
        }

        boolean isDead(int value) {
            return isObject(value) && counts.get(value - FIRST_OBJECT) == 0;
        }

        /** A value as it is told outside. */
        int shown(int value) {
            return isObject(value) ? FIRST_OBJECT + kindOfValue(value) : value;
        }

        int cell(int object, int field) {
            return object * MAX_FIELDS + field;
        }

        int fieldValue(int object, int field) {
            return values.get(cell(object, field));
        }

        void keep(int value) {
            if (isObject(value)) {
                counts.raise(value - FIRST_OBJECT, 1);
                raised++;
            }
        }

        void giveUp(int value) {
            int depth = 0;
            if (lower(value)) {
                beginDeath(depth, value);
                depth++;
            }
            for (int turn = 0; turn < FAR && depth > 0; turn++) {
                int object = dying.get(depth - 1);
                int field = kinds.fieldInOrder(objectKinds.get(object), cleared.get(depth - 1));
                if (field < 0) {
                    depth--;
                    continue;
                }
                cleared.raise(depth - 1, 1);
                int before = clear(object, field);
                if (lower(before)) {
                    beginDeath(depth, before);
                    depth++;
                }
            }
        }

        private void beginDeath(int depth, int value) {
            dying.set(depth, value - FIRST_OBJECT);
            cleared.set(depth, 0);
        }

        /** Empties a field and answers what it owned. */
        private int clear(int object, int field) {
            int before = kinds.isStrong(field) ? fieldValue(object, field) : NONE;
            values.set(cell(object, field), NONE);
            return before;
        }

        /** Lowers the count of an object, notes its death if it dies of that, and answers whether it does. */
        private boolean lower(int value) {
            int object = value - FIRST_OBJECT;
            if (!isObject(value) || counts.get(object) <= 0) {
                return false;
            }
            counts.raise(object, -1);
            lowered++;
            if (counts.get(object) > 0) {
                return false;
            }
            int kind = objectKinds.get(object);
            for (int levels = 0; kind >= 0 && levels < MAX_KINDS; levels++) {
                deathCodes.add(kinds.codes.get(kind));
                kind = kinds.parents.get(kind);
            }
            return true;
        }

        boolean isExclusive(int value, int field) {
            return exclusive.get(cell(value - FIRST_OBJECT, field)) != 0;
        }

        void beginAccess(int cell) {
            exclusive.set(cell, 1);
            accessCount++;
        }

        void endAccess(int cell) {
            exclusive.set(cell, 0);
            accessCount--;
        }

        boolean isOpenTo(int task, int object) {
            int occupant = occupants.get(object);
            return occupant < 0 || occupant == task;
        }

        void enter(int task, int object) {
            occupants.set(object, task);
            entries.raise(object, 1);
        }

        void leave(int object) {
            entries.raise(object, -1);
            if (entries.get(object) <= 0) {
                occupants.set(object, -1);
            }
        }

        boolean holdsDead() {
            for (int object = 0; object < objectCount; object++) {
                for (int field = 0; field < kinds.fieldCount; field++) {
                    if (kinds.isStrong(field) && isDead(fieldValue(object, field))) {
                        return true;
                    }
                }
            }
            return false;
        }
    }

    /** A function that a task is in, with its variables and the parts that it is in. */
    private static final class Frame {
        private final Row variables = new Row(VARIABLES, NONE);

        /** The lines with which the parts start, from the outermost one. */
        private final Row partLines = new Row(MAX_PARTS, 0);

        /** For a loop how often it is still done, for an access the cell, for an actor the object. */
        private final Row partNotes = new Row(MAX_PARTS, 0);

        private Function function;
        private int line = 0;
        private int partCount = 0;
        private int firstPutOff = 0;
        private boolean hasGoneOn = false;
        private boolean borrows = false;

        Frame(Function function) {
            this.function = function;
        }

        void start(Function begun, int parameter, int putOffCount) {
            function = begun;
            for (int variable = 1; variable < VARIABLES; variable++) {
                variables.set(variable, NONE);
            }
            variables.set(0, parameter);
            borrows = !begun.isOwner;
            partCount = 0;
            firstPutOff = putOffCount;
            goTo(0);
        }

        int value(int variable) {
            return variables.get(variable);
        }

        int ownedValue(int variable) {
            return variable == 0 && borrows ? NONE : variables.get(variable);
        }

        void put(int variable, int value) {
            variables.set(variable, value);
            if (variable == 0) {
                borrows = false;
            }
        }

        void goTo(int next) {
            line = next;
            hasGoneOn = true;
        }

        void openPart(int start, int note) {
            partLines.set(partCount, start);
            partNotes.set(partCount, note);
            partCount++;
        }

        int innermostLine() {
            return partLines.get(partCount - 1);
        }

        int innermostNote() {
            return partNotes.get(partCount - 1);
        }
    }

    /** A task with the functions that it is in. */
    private static final class Task {
        private static final int STAYS = 0;
        private static final int RETURNS = 1;
        private static final int THROWS = 2;

        private final int number;
        private final Frame spare;
        private final Frame[] frames;

        /** The lines of the 'd' whose parts were put off, of all functions that the task is in. */
        private final Log putOff = new Log();

        private int frameCount = 0;
        private char condition = 'r';
        private char cause = FINE;
        private int causeLine = 0;

        /** Whether the innermost function is being left, and with what: the value or the error. */
        private int leaving = STAYS;

        private int carried = NONE;

        /** The line of a part that was put off and is being done, -1 if there is none. */
        private int putOffLine = -1;

        private int held = NONE;
        private int stepCount = 0;
        private boolean isThrifty = false;

        /** Whether it has left its actors by a 'z'. */
        private boolean isOut = false;

        Task(int number, Function blank) {
            this.number = number;
            spare = new Frame(blank);
            frames = new Frame[MAX_FRAMES];
            for (int i = 0; i < frames.length; i++) {
                frames[i] = new Frame(blank);
            }
        }

        Frame frameAt(int level) {
            Frame found = level >= 0 && level < frames.length ? frames[level] : null;
            return found == null ? spare : found;
        }

        Frame top() {
            return frameAt(frameCount - 1);
        }

        void enterFirst(Function f, int parameter) {
            held = f.isOwner ? NONE : parameter;
            enter(f, parameter);
        }

        void enter(Function f, int parameter) {
            frameCount++;
            top().start(f, parameter, putOff.size);
        }

        boolean canGoOn() {
            return condition == 'r' || condition == 'w';
        }

        void leaveWith(int way, int what) {
            leaving = way;
            carried = what;
        }

        void stop(char why, int line) {
            condition = 't';
            cause = why;
            causeLine = line;
        }

        boolean isIn(int object) {
            for (int level = 0; level < frameCount && !isOut; level++) {
                Frame f = frameAt(level);
                for (int part = 0; part < f.partCount; part++) {
                    if (f.function.kindAt(f.partLines.get(part)) == 'v' && f.partNotes.get(part) == object) {
                        return true;
                    }
                }
            }
            return false;
        }
    }

    /** Does the lines of tasks. */
    private static final class Runner {
        private final Kinds kinds;
        private final Function[] functions;
        private final Heap heap;
        private final Log printed;

        Runner(Kinds kinds, Function[] functions, Heap heap, Log printed) {
            this.kinds = kinds;
            this.functions = functions;
            this.heap = heap;
            this.printed = printed;
        }

        /** Lets a task that left its actors enter them again, and answers whether it can do a line. */
        boolean isBack(Task t) {
            t.condition = 'r';
            if (!t.isOut) {
                return true;
            }
            if (!canEnterAgain(t)) {
                t.condition = 'w';
                return false;
            }
            t.isOut = false;
            for (int level = 0; level < t.frameCount; level++) {
                enterActors(t, t.frameAt(level));
            }
            Frame f = t.top();
            return f.line < f.function.size;
        }

        private boolean canEnterAgain(Task t) {
            for (int level = 0; level < t.frameCount; level++) {
                Frame f = t.frameAt(level);
                for (int part = 0; part < f.partCount; part++) {
                    if (isActorPart(f, part) && !heap.isOpenTo(t.number, f.partNotes.get(part))) {
                        return false;
                    }
                }
            }
            return true;
        }

        private void enterActors(Task t, Frame f) {
            for (int part = 0; part < f.partCount; part++) {
                if (isActorPart(f, part)) {
                    heap.enter(t.number, f.partNotes.get(part));
                }
            }
        }

        private void leaveActors(Frame f) {
            for (int part = 0; part < f.partCount; part++) {
                if (isActorPart(f, part)) {
                    heap.leave(f.partNotes.get(part));
                }
            }
        }

        private boolean isActorPart(Frame f, int part) {
            return f.function.kindAt(f.partLines.get(part)) == 'v';
        }

        void doLine(Task t) {
            Frame f = t.top();
            int line = f.line;
            char trap = trapOf(t, f, line);
            if (trap != FINE) {
                t.stop(trap, line);
            } else if (Checker.isPlain(f.function.kindAt(line))) {
                doPlainLine(t, f, line);
                f.goTo(line + 1);
            } else if (Checker.isStart(f.function.kindAt(line))) {
                doStart(t, f, line);
            } else {
                doJump(t, f, line);
            }
        }

        // ---- traps

        private char trapOf(Task t, Frame f, int line) {
            Function code = f.function;
            switch (code.kindAt(line)) {
                case 'm':
                    return heap.isFull() ? 'm' : FINE;
                case '+':
                    return isNumber(f.value(code.b(line))) && isNumber(f.value(code.c(line))) ? FINE : 't';
                case 'g':
                    return trapOfField(f.value(code.b(line)), code.c(line), true);
                case 'e':
                    return trapOfField(f.value(code.a(line)), code.b(line), false);
                case 'f':
                    return trapOfSetting(f, line);
                case 'v':
                    return trapOfActor(f.value(code.a(line)));
                case 'q':
                    return trapOfWitness(t, f.value(code.c(line)), code.b(line));
                case 'k':
                    return trapOfCall(t);
                default:
                    return FINE;
            }
        }

        private char trapOfField(int value, int field, boolean isRead) {
            if (!isObject(value)) {
                return 'n';
            }
            if (!kinds.hasField(heap.kindOfValue(value), field)) {
                return 'f';
            }
            if (isRead && kinds.fieldTypes.get(field) == 'u'
                    && heap.isDead(heap.fieldValue(value - FIRST_OBJECT, field))) {
                return 'u';
            }
            return heap.isExclusive(value, field) ? 'x' : FINE;
        }

        private char trapOfSetting(Frame f, int line) {
            Function code = f.function;
            char trap = trapOfField(f.value(code.a(line)), code.b(line), false);
            if (trap != FINE) {
                return trap;
            }
            return !kinds.isStrong(code.b(line)) && isNumber(f.value(code.c(line))) ? 't' : FINE;
        }

        private char trapOfActor(int value) {
            if (!isObject(value)) {
                return 'n';
            }
            return kinds.isActorKind(heap.kindOfValue(value)) ? FINE : 't';
        }

        /** The kind of the object tells what meets the requirement, so that it is looked at first. */
        private char trapOfWitness(Task t, int value, int requirement) {
            if (!isObject(value)) {
                return 'n';
            }
            if (kinds.witness(heap.kindOfValue(value), requirement) < 0) {
                return 'p';
            }
            return trapOfCall(t);
        }

        private char trapOfCall(Task t) {
            return t.frameCount >= MAX_FRAMES ? 'd' : FINE;
        }

        // ---- lines that can also be put off

        private void doPlainLine(Task t, Frame f, int line) {
            Function code = f.function;
            int a = code.a(line);
            int b = code.b(line);
            int c = code.c(line);
            switch (code.kindAt(line)) {
                case 'm':
                    setVariable(f, a, heap.newObject(b));
                    break;
                case 'n':
                    setVariable(f, a, b);
                    break;
                case '-':
                    setVariable(f, a, NONE);
                    break;
                case 'c':
                    setVariable(f, a, taken(f, b, t.isThrifty && code.moves(line)));
                    break;
                case '+':
                    setVariable(f, a, (f.value(b) + f.value(c)) % 10000);
                    break;
                case 'g':
                    int read = readField(f.value(b), c);
                    heap.keep(read);
                    setVariable(f, a, read);
                    break;
                case 'f':
                    setField(f, line, t.isThrifty && code.moves(line));
                    break;
                case 'p':
                    printed.add(heap.shown(f.value(a)));
                    break;
                default:
                    break;
            }
        }

        /** Sets a variable to a value that was taken already. */
        private void setVariable(Frame f, int variable, int value) {
            int before = f.ownedValue(variable);
            f.put(variable, value);
            heap.giveUp(before);
        }

        /** Takes the value of a variable: moves it out, or keeps it once more. */
        private int taken(Frame f, int variable, boolean isMoved) {
            int value = f.value(variable);
            if (isMoved) {
                f.put(variable, NONE);
            } else {
                heap.keep(value);
            }
            return value;
        }

        private int readField(int value, int field) {
            int read = heap.fieldValue(value - FIRST_OBJECT, field);
            return kinds.fieldTypes.get(field) == 'w' && heap.isDead(read) ? NONE : read;
        }

        private void setField(Frame f, int line, boolean isMoved) {
            int field = f.function.b(line);
            int cell = heap.cell(f.value(f.function.a(line)) - FIRST_OBJECT, field);
            if (!kinds.isStrong(field)) {
                heap.values.set(cell, f.value(f.function.c(line)));
                return;
            }
            int value = taken(f, f.function.c(line), isMoved);
            int before = heap.values.get(cell);
            heap.values.set(cell, value);
            heap.giveUp(before);
        }

        // ---- lines with which a part starts

        private void doStart(Task t, Frame f, int line) {
            Function code = f.function;
            int value = f.value(code.a(line));
            switch (code.kindAt(line)) {
                case '?':
                    doPart(f, line, value != NONE, 0);
                    break;
                case 'l':
                    doPart(f, line, true, code.a(line));
                    break;
                case 'o':
                    // No error came, so the part that was tried ends and the other one is not done.
                    f.partCount--;
                    doPart(f, line, false, 0);
                    break;
                case 'd':
                    t.putOff.add(line);
                    doPart(f, line, false, 0);
                    break;
                case 'e':
                    int cell = heap.cell(value - FIRST_OBJECT, code.b(line));
                    heap.beginAccess(cell);
                    doPart(f, line, true, cell);
                    break;
                case 'v':
                    enterActor(t, f, line, value - FIRST_OBJECT);
                    break;
                default:
                    doPart(f, line, true, 0);
                    break;
            }
        }

        private void doPart(Frame f, int line, boolean isDone, int note) {
            if (isDone) {
                f.openPart(line, note);
                f.goTo(line + 1);
            } else {
                f.goTo(f.function.lastOfPart(line) + 1);
            }
        }

        private void enterActor(Task t, Frame f, int line, int object) {
            if (heap.isOpenTo(t.number, object)) {
                heap.enter(t.number, object);
                doPart(f, line, true, object);
            } else {
                t.condition = 'w';
            }
        }

        // ---- calls, leaving, waiting and ends

        private void doJump(Task t, Frame f, int line) {
            Function code = f.function;
            int a = code.a(line);
            switch (code.kindAt(line)) {
                case 'k':
                    call(t, code.b(line), f.value(code.c(line)));
                    break;
                case 'q':
                    int parameter = f.value(code.c(line));
                    call(t, kinds.witness(heap.kindOfValue(parameter), code.b(line)), parameter);
                    break;
                case 'r':
                    t.leaveWith(Task.RETURNS, taken(f, a, t.isThrifty && code.moves(line)));
                    break;
                case 'h':
                    t.leaveWith(Task.THROWS, a);
                    break;
                case 'z':
                    for (int level = 0; level < t.frameCount; level++) {
                        leaveActors(t.frameAt(level));
                    }
                    t.isOut = true;
                    f.goTo(line + 1);
                    break;
                default:
                    doEnd(f, line);
                    break;
            }
        }

        private void call(Task t, int number, int parameter) {
            Function callee = number >= 0 && number < functions.length ? functions[number] : null;
            if (callee == null) {
                return;
            }
            if (callee.isOwner) {
                heap.keep(parameter);
            }
            t.enter(callee, parameter);
        }

        private void doEnd(Frame f, int line) {
            int start = f.innermostLine();
            int left = f.innermostNote() - 1;
            if (f.function.kindAt(start) == 'l' && left > 0) {
                f.partNotes.set(f.partCount - 1, left);
                f.goTo(start + 1);
            } else {
                endPart(f);
                f.goTo(line + 1);
            }
        }

        private void endPart(Frame f) {
            char kind = f.function.kindAt(f.innermostLine());
            int note = f.innermostNote();
            f.partCount--;
            if (kind == 'e') {
                heap.endAccess(note);
            } else if (kind == 'v') {
                heap.leave(note);
            }
        }

        // ---- what a step does behind its line

        /** Gives up what the thrifty way does not need, and leaves functions, until the task is at a line. */
        void settle(Task t) {
            for (int turn = 0; turn < FAR && t.canGoOn(); turn++) {
                Frame f = t.top();
                if (f.hasGoneOn) {
                    shorten(t, f);
                } else if (t.leaving == Task.STAYS) {
                    if (f.line < f.function.size || t.isOut) {
                        return;
                    }
                    t.leaveWith(Task.RETURNS, NONE);
                } else if (f.partCount > 0) {
                    unwindPart(t, f);
                } else if (t.putOffLine >= 0) {
                    int line = t.putOffLine;
                    if (goesOnPutOff(t, f, line)) {
                        doPlainLine(t, f, line);
                    }
                } else if (t.putOff.size > f.firstPutOff) {
                    t.putOffLine = t.putOff.takeLast() + 1;
                } else {
                    leaveFunction(t, f);
                }
            }
        }

        private void shorten(Task t, Frame f) {
            f.hasGoneOn = false;
            if (!t.isThrifty || f.partCount > 0) {
                return;
            }
            for (int variable = 0; variable < VARIABLES; variable++) {
                if (f.function.lasts.get(variable) == f.line - 1) {
                    setVariable(f, variable, NONE);
                }
            }
        }

        private void unwindPart(Task t, Frame f) {
            int start = f.innermostLine();
            endPart(f);
            if (t.leaving == Task.THROWS && f.function.kindAt(start) == 'y') {
                int handler = f.function.ends.get(start);
                int error = t.carried;
                t.leaveWith(Task.STAYS, NONE);
                doPart(f, handler, true, 0);
                setVariable(f, f.function.a(start), error);
            }
        }

        /** Looks at the next line of a part that was put off, and answers whether it is to be done. */
        private boolean goesOnPutOff(Task t, Frame f, int line) {
            if (f.function.kindAt(line) == 'j') {
                t.putOffLine = -1;
                return false;
            }
            char trap = trapOf(t, f, line);
            if (trap != FINE) {
                t.stop(trap, line);
                return false;
            }
            t.putOffLine = line + 1;
            return true;
        }

        private void leaveFunction(Task t, Frame f) {
            for (int variable = VARIABLES - 1; variable >= 0; variable--) {
                setVariable(f, variable, NONE);
            }
            t.frameCount--;
            if (t.frameCount == 0) {
                heap.giveUp(t.held);
                t.held = NONE;
                t.condition = t.leaving == Task.RETURNS ? 'd' : 'e';
            } else if (t.leaving == Task.RETURNS) {
                Frame caller = t.top();
                int value = t.carried;
                t.leaveWith(Task.STAYS, NONE);
                setVariable(caller, caller.function.a(caller.line), value);
                caller.goTo(caller.line + 1);
            }
        }
    }
}
