import java.util.Arrays;

/**
 * A board that rests by its tables. The face below refuses, keeps what can be undone, and leaves the
 * work to the classes inside: a table is read, methods are run, devices are powered, the board rests.
 */
public final class RestBoard {
    public static final int NONE = -1;

    private static final int ROOT = 0;
    private static final int NODES = 32;
    private static final int TAPE_BYTES = 400;
    private static final int CODE_BYTES = 60;
    private static final int PACK = 6;
    private static final int TIES = 4;
    private static final int BYTES_OF_BANK = 8;
    private static final int WINDOW = 4;
    private static final int RESTS = 4;
    private static final int LINES = 8;
    private static final int OFF = 3;
    private static final int NUMBERS = 65536;

    private static final int DEVICE = 1;
    private static final int RESOURCE = 2;
    private static final int METHOD = 3;
    private static final int NUMBER = 4;
    private static final int PACKAGE = 5;
    private static final int FIELD = 6;
    private static final int LOCK = 7;

    private static final int BAD_NUMBER = -1;
    private static final int NO_NODE = -2;
    private static final int RESTING = -3;
    private static final int CANNOT = -4;
    private static final int STAYS_ON = -5;
    private static final int UNREADABLE = -6;
    private static final int FAILED = -7;
    private static final int REFUSALS = 7;

    private static final int LOADED = 0;
    private static final int CALLED = 1;
    private static final int STORED = 2;
    private static final int POWERED = 3;
    private static final int ARMED = 4;
    private static final int DISARMED = 5;
    private static final int RESTED = 6;
    private static final int RAISED = 7;
    private static final int CLEARED = 8;

    private final State now = new State();
    private final State paper = new State();
    private final Tree tree = new Tree(now);
    private final Table table = new Table(tree);
    private final Machine machine = new Machine(tree, now);
    private final Powers powers = new Powers(tree, now);
    private final Rests rests = new Rests(tree, now, machine, powers);
    private final History history = new History(now);
    private final int[] refusals = new int[REFUSALS];
    private int refusedBy;
    private int latestFault = NONE;

    public RestBoard() {
    }

    public int feed(int a, int b, int c, int d, int e) {
        return table.append(a, b, c, d, e);
    }

    public int end(int n) {
        return table.cut(n);
    }

    public int load(int device) {
        if (!tree.is(device, DEVICE)) {
            return refuse(NO_NODE);
        }
        if (now.resting != 0) {
            return refuse(RESTING);
        }
        int size = table.read(device, now.size);
        latestFault = table.faultAt();
        table.cut(0);
        if (latestFault != NONE) {
            return refuse(UNREADABLE);
        }
        history.keep(LOADED);
        int before = now.size;
        tree.grow(size);
        return accept(size - before);
    }

    public int fault() {
        return latestFault;
    }

    public int call(int method, int a, int b, int c) {
        int by = refusalToRun(method, a, b, c);
        if (by != 0) {
            return refuse(by);
        }
        history.keep(CALLED);
        int result = machine.run(method, a, b, c);
        return result == NONE ? refuse(FAILED) : accept(result);
    }

    public int store(int node, int value) {
        if (!isValue(value)) {
            return refuse(BAD_NUMBER);
        }
        if (!tree.holdsValue(node)) {
            return refuse(NO_NODE);
        }
        if (now.resting != 0) {
            return refuse(RESTING);
        }
        history.keep(STORED);
        int was = machine.peek(node);
        machine.put(node, value);
        return accept(was);
    }

    public int power(int device, int power) {
        int by = refusalToPower(device, power);
        if (by != 0) {
            return refuse(by);
        }
        history.keep(POWERED);
        machine.forgetSteps();
        int old = now.powers[device];
        powers.remember(device);
        int turned = powers.become(device, power);
        int method = tree.ownMethod(device, 'c');
        if (method != NONE && machine.run(method, power, 0, 0) == NONE) {
            powers.takeBack(device, old);
            return refuse(FAILED);
        }
        return accept(turned);
    }

    public int arm(int device) {
        int by = refusalToChange(device);
        if (by == 0 && (now.lines[device] != NONE || !powers.canArm(device))) {
            by = CANNOT;
        }
        if (by != 0) {
            return refuse(by);
        }
        history.keep(ARMED);
        powers.tie(device);
        return accept(now.lines[device]);
    }

    public int disarm(int device) {
        int by = refusalToChange(device);
        if (by == 0 && now.lines[device] == NONE) {
            by = CANNOT;
        }
        if (by != 0) {
            return refuse(by);
        }
        history.keep(DISARMED);
        return accept(powers.untie(device));
    }

    public int rest(int k) {
        int by = refusalToRest(k);
        if (by != 0) {
            return refuse(by);
        }
        history.keep(RESTED);
        int result = rests.enter(k);
        return result < 0 ? refuse(result) : accept(result);
    }

    public int raise(int line) {
        if (!isLine(line)) {
            return refuse(BAD_NUMBER);
        }
        if (isRaised(line)) {
            return refuse(CANNOT);
        }
        history.keep(RAISED);
        return accept(rests.lift(line));
    }

    public int clear(int line) {
        if (!isLine(line)) {
            return refuse(BAD_NUMBER);
        }
        if (!isRaised(line)) {
            return refuse(CANNOT);
        }
        history.keep(CLEARED);
        now.raised &= ~(1 << line);
        return accept(0);
    }

    public int undo() {
        if (history.kept() == 0) {
            return refuse(CANNOT);
        }
        return accept(history.takeBack());
    }

    public int node(int node, int what) {
        if (!tree.has(node)) {
            return NONE;
        }
        Node told = tree.nodes[node];
        switch (what) {
            case 0:
                return told.kind;
            case 1:
                return told.name;
            case 2:
                return told.parent;
            default:
                return ofItsKind(node, told, what);
        }
    }

    public int code(int method, int i) {
        if (!tree.is(method, METHOD)) {
            return NONE;
        }
        Node told = tree.nodes[method];
        return i >= 0 && i < told.length ? told.bytes[i] : NONE;
    }

    public int lookUp(int device, int name) {
        return tree.is(device, DEVICE) ? tree.find(device, name) : NONE;
    }

    public int register(int bank, int i) {
        if (bank < 0 || bank > WINDOW || i < 0 || i >= BYTES_OF_BANK) {
            return NONE;
        }
        return now.registers.bytes[bank * BYTES_OF_BANK + i];
    }

    public long wants(int device) {
        return tree.is(device, DEVICE) ? powers.needs(device) : NONE;
    }

    public long wanted(int resource) {
        if (!tree.is(resource, RESOURCE)) {
            return NONE;
        }
        long devices = 0;
        for (int device = 0; device < now.size; device++) {
            if (tree.is(device, DEVICE) && (powers.needs(device) >> resource & 1) != 0) {
                devices |= 1L << device;
            }
        }
        return devices;
    }

    public int deepest() {
        for (int k = RESTS; k > 0; k--) {
            if (rests.obstacle(k) == 0) {
                return k;
            }
        }
        return 0;
    }

    public int why(int k) {
        return k < 1 || k > RESTS ? NONE : rests.obstacle(k);
    }

    public int order(int i) {
        return rests.inTurn(i);
    }

    public int would(int k) {
        int by = refusalToRest(k);
        if (by != 0) {
            return by;
        }
        goOnPaper();
        int result = rests.enter(k);
        comeBack();
        return result;
    }

    public int tries(int method, int a, int b, int c, int what) {
        if (what < 0 || what > 4) {
            return NONE;
        }
        int by = refusalToRun(method, a, b, c);
        if (by != 0) {
            return what == 0 ? by : 0;
        }
        goOnPaper();
        int result = machine.run(method, a, b, c);
        int told = ofTheRun(result, what);
        comeBack();
        return told;
    }

    public int error(int what) {
        return machine.told(what);
    }

    public int note(int ago, int what) {
        return now.notes.told(ago, what);
    }

    public int switched(int ago, int what) {
        return now.switches.told(ago, what);
    }

    public int count(int what) {
        switch (what) {
            case 0:
                return now.size;
            case 1:
                return tree.devices();
            case 2:
                return now.resting;
            case 3:
                return powers.resourcesOn();
            case 4:
                return powers.armedDevices();
            case 5:
                return now.raised;
            case 6:
                return now.registers.reads;
            case 7:
                return now.registers.writes;
            case 8:
                return now.registers.select;
            case 9:
                return now.notes.kept;
            case 10:
                return now.switches.kept;
            case 11:
                return machine.steps();
            case 12:
                return history.kept();
            case 13:
                return table.length();
            default:
                return what >= 14 && what < 14 + REFUSALS ? refusals[what - 14] : NONE;
        }
    }

    public int status() {
        return refusedBy;
    }

    private int refuse(int by) {
        refusedBy = by;
        int which = -1 - by;
        if (which >= 0 && which < REFUSALS) {
            refusals[which]++;
        }
        return by;
    }

    private int accept(int answer) {
        refusedBy = 0;
        return answer;
    }

    private static boolean isValue(int value) {
        return value >= 0 && value < NUMBERS;
    }

    private static boolean isLine(int line) {
        return line >= 0 && line < LINES;
    }

    private boolean isRaised(int line) {
        return (now.raised >> line & 1) != 0;
    }

    private int refusalToRun(int method, int a, int b, int c) {
        if (!isValue(a) || !isValue(b) || !isValue(c)) {
            return BAD_NUMBER;
        }
        if (!tree.is(method, METHOD)) {
            return NO_NODE;
        }
        return now.resting != 0 ? RESTING : 0;
    }

    private int refusalToChange(int device) {
        if (device == ROOT || !tree.is(device, DEVICE)) {
            return NO_NODE;
        }
        return now.resting != 0 ? RESTING : 0;
    }

    private int refusalToPower(int device, int power) {
        if (power < 0 || power > OFF) {
            return BAD_NUMBER;
        }
        int by = refusalToChange(device);
        if (by != 0) {
            return by;
        }
        boolean fits = power != now.powers[device]
            && power >= now.powers[tree.nodes[device].parent]
            && power <= powers.leastBelow(device)
            && powers.can(device, power);
        return fits ? 0 : CANNOT;
    }

    private int refusalToRest(int k) {
        if (k < 1 || k > RESTS) {
            return BAD_NUMBER;
        }
        if (now.resting != 0) {
            return RESTING;
        }
        return rests.obstacle(k) != 0 ? CANNOT : 0;
    }

    private void goOnPaper() {
        paper.take(now);
        machine.keepTold();
    }

    private void comeBack() {
        now.take(paper);
        machine.restoreTold();
    }

    private int ofTheRun(int result, int what) {
        switch (what) {
            case 0:
                return result == NONE ? FAILED : result;
            case 1:
                return machine.steps();
            case 2:
                return machine.forgotten();
            case 3:
                return now.registers.reads - paper.registers.reads;
            default:
                return now.registers.writes - paper.registers.writes;
        }
    }

    private int ofItsKind(int node, Node told, int what) {
        switch (told.kind) {
            case DEVICE:
                return ofDevice(node, what);
            case RESOURCE:
                return what == 3 ? told.level : what == 4 ? told.rank : what == 5 ? now.counts[node] : NONE;
            case METHOD:
                return what == 6 ? told.args : what == 7 ? told.length : NONE;
            case NUMBER:
                return what == 8 ? machine.peek(node) : NONE;
            case PACKAGE:
                return ofPackage(node, told.length, what);
            case FIELD:
                return ofField(node, told, what);
            case LOCK:
                return what == 24 ? now.forgotten[node] : NONE;
            default:
                return NONE;
        }
    }

    private int ofDevice(int device, int what) {
        switch (what) {
            case 30:
                return now.powers[device];
            case 31:
                return now.lines[device] == NONE ? 0 : 1;
            case 32:
                return now.lines[device];
            case 33:
                return now.lines[device] == NONE ? NONE : now.depths[device];
            default:
                return NONE;
        }
    }

    private int ofPackage(int node, int length, int what) {
        if (what == 9) {
            return length;
        }
        return what >= 10 && what < 10 + length ? now.packed[node * PACK + what - 10] : NONE;
    }

    private int ofField(int node, Node told, int what) {
        switch (what) {
            case 8:
                return machine.peek(node);
            case 20:
                return told.bank;
            case 21:
                return told.offset;
            case 22:
                return told.width;
            case 23:
                return told.rule;
            default:
                return NONE;
        }
    }

    /** What a table tells of a node. It stays as it is for as long as the node is there. */
    private static final class Node {
        int kind;
        int name;
        int parent;
        int above;
        int level;
        int rank;
        int args;
        int length;
        int bank;
        int offset;
        int width;
        int rule;
        final int[] values = new int[PACK];
        final int[] bytes = new int[CODE_BYTES];

        void begin(int itsKind, int itsName, int itsParent, int devicesAbove) {
            kind = itsKind;
            name = itsName;
            parent = itsParent;
            above = devicesAbove;
            length = 0;
            Arrays.fill(values, 0);
        }
    }

    /** All that an undone act puts back; rows by node, so that keeping it is copying a few rows. */
    private static final class State {
        int size = 1;
        int resting;
        int raised;
        final int[] values = new int[NODES];
        final int[] packed = new int[NODES * PACK];
        final int[] counts = new int[NODES];
        final int[] forgotten = new int[NODES];
        final int[] powers = new int[NODES];
        final int[] lines = new int[NODES];
        final int[] depths = new int[NODES];
        final int[] wanting = new int[NODES * PACK];
        final int[] tied = new int[NODES * TIES];
        final int[] oldPowers = new int[NODES];
        final int[] oldWanting = new int[NODES * PACK];
        final Registers registers = new Registers();
        final Log notes = new Log(16);
        final Log switches = new Log(32);

        State() {
            Arrays.fill(lines, NONE);
            Arrays.fill(wanting, NONE);
            Arrays.fill(tied, NONE);
        }

        /** The other rows are as in a new state there: nodes go by undoing alone, which puts back all rows. */
        void welcome(int node, Node told) {
            values[node] = told.values[0];
            System.arraycopy(told.values, 0, packed, node * PACK, PACK);
            powers[node] = OFF;
        }

        void take(State other) {
            size = other.size;
            resting = other.resting;
            raised = other.raised;
            System.arraycopy(other.values, 0, values, 0, NODES);
            System.arraycopy(other.packed, 0, packed, 0, NODES * PACK);
            System.arraycopy(other.counts, 0, counts, 0, NODES);
            System.arraycopy(other.forgotten, 0, forgotten, 0, NODES);
            System.arraycopy(other.powers, 0, powers, 0, NODES);
            System.arraycopy(other.lines, 0, lines, 0, NODES);
            System.arraycopy(other.depths, 0, depths, 0, NODES);
            System.arraycopy(other.wanting, 0, wanting, 0, NODES * PACK);
            System.arraycopy(other.tied, 0, tied, 0, NODES * TIES);
            System.arraycopy(other.oldPowers, 0, oldPowers, 0, NODES);
            System.arraycopy(other.oldWanting, 0, oldWanting, 0, NODES * PACK);
            registers.take(other.registers);
            notes.take(other.notes);
            switches.take(other.switches);
        }

        void rememberPowers() {
            System.arraycopy(powers, 0, oldPowers, 0, NODES);
            System.arraycopy(wanting, 0, oldWanting, 0, NODES * PACK);
        }
    }

    /** The last so many pairs of numbers; the oldest gives way. */
    private static final class Log {
        final int[] who;
        final int[] what;
        int kept;
        int next;

        Log(int room) {
            who = new int[room];
            what = new int[room];
        }

        void write(int itsWho, int itsWhat) {
            who[next] = itsWho;
            what[next] = itsWhat;
            next = next + 1 < who.length ? next + 1 : 0;
            kept = kept < who.length ? kept + 1 : kept;
        }

        int told(int ago, int which) {
            if (ago < 0 || ago >= kept || which < 0 || which > 1) {
                return NONE;
            }
            int at = next - 1 - ago;
            if (at < 0) {
                at += who.length;
            }
            return which == 0 ? who[at] : what[at];
        }

        void take(Log other) {
            System.arraycopy(other.who, 0, who, 0, who.length);
            System.arraycopy(other.what, 0, what, 0, what.length);
            kept = other.kept;
            next = other.next;
        }
    }

    /** The banks, one behind the other, the window last; what is read and written is tallied. */
    private static final class Registers {
        final int[] bytes = new int[(WINDOW + 1) * BYTES_OF_BANK];
        int select;
        int reads;
        int writes;

        int peek(Node field) {
            int value = 0;
            for (int i = 0; i < field.width; i++) {
                int bit = field.offset + i;
                value |= (bytes[field.bank * BYTES_OF_BANK + bit / 8] >> bit % 8 & 1) << i;
            }
            return value;
        }

        int fetch(Node field) {
            choose(field.bank);
            reads += lastByte(field) - field.offset / 8 + 1;
            return peek(field);
        }

        void put(Node field, int value) {
            choose(field.bank);
            int last = lastByte(field);
            for (int at = field.offset / 8; at <= last; at++) {
                int mask = bitsIn(field, at);
                int index = field.bank * BYTES_OF_BANK + at;
                int shift = at * 8 - field.offset;
                int part = shift < 0 ? value << -shift : value >> shift;
                bytes[index] = part & mask | others(field.rule, bytes[index], mask);
                writes++;
            }
        }

        void take(Registers other) {
            System.arraycopy(other.bytes, 0, bytes, 0, bytes.length);
            select = other.select;
            reads = other.reads;
            writes = other.writes;
        }

        /** It is written even if it is selected already: a board can't ask for that. */
        private void choose(int bank) {
            if (bank != WINDOW) {
                select = bank;
                writes++;
            }
        }

        private int others(int rule, int old, int mask) {
            if (mask == 255) {
                return 0;
            }
            if (rule == 0) {
                reads++;
                return old & ~mask;
            }
            return rule == 1 ? 255 & ~mask : 0;
        }

        private static int lastByte(Node field) {
            return (field.offset + field.width - 1) / 8;
        }

        private static int bitsIn(Node field, int at) {
            int from = Math.max(field.offset - at * 8, 0);
            int behind = Math.min(field.offset + field.width - at * 8, 8);
            return (1 << behind) - (1 << from);
        }
    }

    /** The nodes and how a name is looked up among them. */
    private static final class Tree {
        final Node[] nodes = new Node[NODES];
        private final State now;

        Tree(State state) {
            now = state;
            for (int i = 0; i < NODES; i++) {
                nodes[i] = new Node();
            }
            nodes[ROOT].begin(DEVICE, 0, NONE, 0);
        }

        boolean has(int node) {
            return node >= 0 && node < now.size;
        }

        boolean is(int node, int kind) {
            return has(node) && nodes[node].kind == kind;
        }

        boolean holdsValue(int node) {
            return is(node, NUMBER) || is(node, FIELD);
        }

        /** The size is told, as a table that is being read has nodes that aren't there yet. */
        int child(int device, int name, int size) {
            for (int i = 1; i < size; i++) {
                if (nodes[i].name == name && nodes[i].parent == device) {
                    return i;
                }
            }
            return NONE;
        }

        int find(int device, int name) {
            int from = device;
            for (int i = 0; i < NODES && from != NONE; i++) {
                int node = child(from, name, now.size);
                if (node != NONE) {
                    return node;
                }
                from = nodes[from].parent;
            }
            return NONE;
        }

        int own(int device, int name, int kind) {
            int node = child(device, name, now.size);
            return node != NONE && nodes[node].kind == kind ? node : NONE;
        }

        /** What the board runs by itself has one argument; another method of that name is none. */
        int ownMethod(int device, int name) {
            int node = own(device, name, METHOD);
            return node != NONE && nodes[node].args == 1 ? node : NONE;
        }

        int devices() {
            int found = 0;
            for (int i = 0; i < now.size; i++) {
                found += nodes[i].kind == DEVICE ? 1 : 0;
            }
            return found;
        }

        void grow(int size) {
            for (int i = now.size; i < size; i++) {
                now.welcome(i, nodes[i]);
            }
            now.size = size;
        }
    }

    /** The tape, and the reader of the table on it; at a fault it stands still and reads no more. */
    private static final class Table {
        private static final int TERMS_DEEP = 8;
        private static final int IF = 1;
        private static final int ELSE = 2;
        private static final int LOOP = 3;

        private final Tree tree;
        private final int[] tape = new int[TAPE_BYTES];
        private int length;
        private int at;
        private int end;
        private int faultPlace = NONE;
        private int size;
        private final int[] deviceEnds = new int[NODES + 1];
        private final int[] devices = new int[NODES + 1];
        private int devicesOpen;
        private final int[] blockEnds = new int[CODE_BYTES + 1];
        private final int[] blockKinds = new int[CODE_BYTES + 1];
        private int blocksOpen;
        private int loopsOpen;
        private int args;

        Table(Tree itsTree) {
            tree = itsTree;
        }

        int length() {
            return length;
        }

        int faultAt() {
            return faultPlace;
        }

        int append(int a, int b, int c, int d, int e) {
            if (length + 20 > TAPE_BYTES) {
                return NONE;
            }
            appendFour(a);
            appendFour(b);
            appendFour(c);
            appendFour(d);
            appendFour(e);
            return length;
        }

        int cut(int n) {
            if (n < 0 || n > length) {
                return NONE;
            }
            length = n;
            return n;
        }

        private void appendFour(int number) {
            for (int shift = 24; shift >= 0; shift -= 8) {
                tape[length] = number >> shift & 255;
                length++;
            }
        }

        /** Answers how many nodes there are with those of the table; they are not in the state yet. */
        int read(int device, int nodesBefore) {
            at = 0;
            size = nodesBefore;
            faultPlace = length == 0 ? 0 : NONE;
            devicesOpen = 0;
            devices[0] = device;
            deviceEnds[0] = length;
            end = length;
            for (int turn = 0; turn <= 2 * TAPE_BYTES && faultPlace == NONE; turn++) {
                if (at < end) {
                    if (begins()) {
                        content(tree.nodes[size - 1]);
                    }
                } else if (devicesOpen == 0) {
                    break;
                } else {
                    devicesOpen--;
                    end = deviceEnds[devicesOpen];
                }
            }
            return size;
        }

        /** The next byte, if it is there and lies between both; else the fault is its place. */
        private int number(int least, int most) {
            if (faultPlace != NONE) {
                return 0;
            }
            if (at >= end || tape[at] < least || tape[at] > most) {
                faultPlace = at;
                return 0;
            }
            at++;
            return tape[at - 1];
        }

        /** Whether a definition's first two bytes can be there; its node is the last one then. */
        private boolean begins() {
            int place = at;
            int kind = kindOf(number(0, 255));
            if (kind == NONE || size >= NODES) {
                faultPlace = place;
                return false;
            }
            int parent = devices[devicesOpen];
            int namePlace = at;
            int name = number('a', 'z');
            if (faultPlace == NONE && tree.child(parent, name, size) != NONE) {
                faultPlace = namePlace;
            }
            if (faultPlace != NONE) {
                return false;
            }
            tree.nodes[size].begin(kind, name, parent, tree.nodes[parent].above + 1);
            size++;
            return true;
        }

        private static int kindOf(int letter) {
            switch (letter) {
                case 'D':
                    return DEVICE;
                case 'R':
                    return RESOURCE;
                case 'M':
                    return METHOD;
                case 'N':
                    return NUMBER;
                case 'P':
                    return PACKAGE;
                case 'F':
                    return FIELD;
                case 'L':
                    return LOCK;
                default:
                    return NONE;
            }
        }

        private void content(Node node) {
            switch (node.kind) {
                case DEVICE:
                    openDevice(number(0, end - at - 1));
                    break;
                case RESOURCE:
                    node.level = number(0, 4);
                    node.rank = number(0, 9);
                    break;
                case METHOD:
                    method(node);
                    break;
                case NUMBER:
                    values(node, 1);
                    break;
                case PACKAGE:
                    node.length = number(0, PACK);
                    values(node, node.length);
                    break;
                case FIELD:
                    node.bank = number(0, WINDOW);
                    node.offset = number(0, 63);
                    node.width = number(1, Math.min(16, 64 - node.offset));
                    node.rule = number(0, 2);
                    break;
                default:
                    break;
            }
        }

        private void openDevice(int n) {
            if (faultPlace != NONE || devicesOpen >= NODES) {
                return;
            }
            devicesOpen++;
            devices[devicesOpen] = size - 1;
            deviceEnds[devicesOpen] = at + n;
            end = at + n;
        }

        private void values(Node node, int many) {
            for (int i = 0; i < many && i < PACK; i++) {
                node.values[i] = number(0, 255) * 256 + number(0, 255);
            }
        }

        private void method(Node node) {
            node.args = number(0, 3);
            int n = number(0, Math.min(CODE_BYTES, end - at - 1));
            if (faultPlace != NONE) {
                return;
            }
            node.length = n;
            args = node.args;
            System.arraycopy(tape, at, node.bytes, 0, n);
            int around = end;
            end = at + n;
            blocksOpen = 0;
            blockEnds[0] = end;
            loopsOpen = 0;
            boolean behindIf = false;
            for (int turn = 0; turn <= 2 * CODE_BYTES && faultPlace == NONE; turn++) {
                if (at < end) {
                    statement(behindIf);
                    behindIf = false;
                } else if (blocksOpen == 0) {
                    break;
                } else {
                    behindIf = closeBlock() == IF;
                }
            }
            end = around;
        }

        private void openBlock(int kind) {
            int n = number(0, end - at - 1);
            if (faultPlace != NONE || blocksOpen >= CODE_BYTES) {
                return;
            }
            blocksOpen++;
            blockKinds[blocksOpen] = kind;
            blockEnds[blocksOpen] = at + n;
            loopsOpen += kind == LOOP ? 1 : 0;
            end = at + n;
        }

        private int closeBlock() {
            int kind = blockKinds[blocksOpen];
            loopsOpen -= kind == LOOP ? 1 : 0;
            blocksOpen--;
            end = blockEnds[blocksOpen];
            return kind;
        }

        private void statement(boolean behindIf) {
            int place = at;
            int what = number(16, 28);
            if (faultPlace != NONE) {
                return;
            }
            switch (what) {
                case 16:
                    number(0, 3);
                    term(1);
                    break;
                case 17:
                    number('a', 'z');
                    term(1);
                    break;
                case 18:
                    number('a', 'z');
                    term(1);
                    term(1);
                    break;
                case 19:
                    term(1);
                    openBlock(IF);
                    break;
                case 20:
                    if (behindIf) {
                        openBlock(ELSE);
                    } else {
                        faultPlace = place;
                    }
                    break;
                case 21:
                    term(1);
                    openBlock(LOOP);
                    break;
                case 24:
                case 25:
                    number('a', 'z');
                    break;
                case 27:
                    if (loopsOpen == 0) {
                        faultPlace = place;
                    }
                    break;
                default:
                    term(1);
                    break;
            }
        }

        private void term(int deep) {
            if (faultPlace != NONE) {
                return;
            }
            if (deep > TERMS_DEEP) {
                faultPlace = at;
                return;
            }
            int what = number(0, 9);
            if (faultPlace != NONE) {
                return;
            }
            int parts = partsOf(what);
            for (int i = 0; i < parts; i++) {
                term(deep + 1);
            }
        }

        /** Reads what of a term lies ahead of the terms in it: how many these are. */
        private int partsOf(int what) {
            switch (what) {
                case 0:
                    number(0, 255);
                    return 0;
                case 1:
                    number(0, 255);
                    number(0, 255);
                    return 0;
                case 2:
                    number(0, 3);
                    return 0;
                case 3:
                    number(0, args - 1);
                    return 0;
                case 5:
                    number('a', 'z');
                    return number(0, 3);
                case 6:
                    number('a', 'z');
                    return 1;
                case 7:
                    number(0, 9);
                    return 2;
                case 8:
                    return 1;
                default:
                    number('a', 'z');
                    return 0;
            }
        }
    }

    /** One run of a method: its place in the code, the blocks that are open, what it holds. */
    private static final class Frame {
        int method;
        int home;
        int at;
        int place;
        int result;
        boolean over;
        int blocks;
        final int[] ends = new int[CODE_BYTES + 1];
        final int[] loops = new int[CODE_BYTES + 1];
        final int[] locals = new int[4];
        final int[] args = new int[4];
        final int[] held = new int[NODES];
        private Node told;

        Frame(Node any) {
            told = any;
        }

        void begin(int itsMethod, Node itsNode, int a, int b, int c) {
            method = itsMethod;
            told = itsNode;
            home = itsNode.parent;
            at = 0;
            place = 0;
            result = 0;
            over = false;
            blocks = 0;
            ends[0] = itsNode.length;
            loops[0] = NONE;
            Arrays.fill(locals, 0);
            Arrays.fill(held, 0);
            args[0] = a;
            args[1] = b;
            args[2] = c;
        }

        boolean atBlockEnd() {
            return at >= ends[blocks];
        }

        int next() {
            if (at < 0 || at >= told.length) {
                return 0;
            }
            at++;
            return told.bytes[at - 1];
        }

        boolean sees(int statement) {
            return !atBlockEnd() && told.bytes[at] == statement;
        }

        void open(int n, int loop) {
            if (blocks < CODE_BYTES) {
                blocks++;
                ends[blocks] = at + n;
                loops[blocks] = loop;
            }
        }

        void leaveLoop() {
            for (int i = blocks; i > 0; i--) {
                if (loops[i] != NONE) {
                    at = ends[i];
                    blocks = i - 1;
                    return;
                }
            }
        }
    }

    /** Runs methods. An error is a flag, at which all that runs comes to its end. */
    private static final class Machine {
        private static final int METHODS_DEEP = 6;
        private static final int TERMS_DEEP = 8;
        private static final int STEPS = 1000;
        private static final int TURNS = 100000;
        private static final int ELSE = 20;

        private static final int NO_NAME = 1;
        private static final int OTHER_ARGS = 2;
        private static final int NO_VALUE = 3;
        private static final int BY_ZERO = 4;
        private static final int TOO_DEEP = 5;
        private static final int TOO_LONG = 6;
        private static final int NOT_HELD = 7;
        private static final int BY_CODE = 8;

        private static final int TRACE = 3;

        private final Tree tree;
        private final State now;
        private final Frame[] frames = new Frame[METHODS_DEEP];
        private int running;
        private int steps;
        private int forgotten;
        private boolean failed;
        private final int[] latest = new int[TRACE + 2 * METHODS_DEEP];
        private final int[] keptLatest = new int[TRACE + 2 * METHODS_DEEP];
        private int keptSteps;

        Machine(Tree itsTree, State state) {
            tree = itsTree;
            now = state;
            for (int i = 0; i < METHODS_DEEP; i++) {
                frames[i] = new Frame(itsTree.nodes[ROOT]);
            }
        }

        int steps() {
            return steps;
        }

        int forgotten() {
            return forgotten;
        }

        void forgetSteps() {
            steps = 0;
        }

        void keepTold() {
            System.arraycopy(latest, 0, keptLatest, 0, latest.length);
            keptSteps = steps;
        }

        void restoreTold() {
            System.arraycopy(keptLatest, 0, latest, 0, latest.length);
            steps = keptSteps;
        }

        /** The latest error: its number, its reason, how long its trace is, then that from 10 on. */
        int told(int what) {
            if (what >= 0 && what < TRACE) {
                return latest[what];
            }
            return what >= 10 && what < 10 + 2 * latest[2] ? latest[TRACE + what - 10] : NONE;
        }

        int peek(int node) {
            return tree.nodes[node].kind == FIELD ? now.registers.peek(tree.nodes[node]) : now.values[node];
        }

        void put(int node, int value) {
            if (tree.nodes[node].kind == FIELD) {
                now.registers.put(tree.nodes[node], value);
            } else {
                now.values[node] = value;
            }
        }

        /** What a method that nothing else runs returns; NONE, if an error was met. */
        int run(int method, int a, int b, int c) {
            running = 0;
            steps = 0;
            forgotten = 0;
            failed = false;
            int result = enter(method, a, b, c);
            return failed ? NONE : result;
        }

        private int enter(int method, int a, int b, int c) {
            if (running >= METHODS_DEEP) {
                return 0;
            }
            Frame frame = frames[running];
            running++;
            frame.begin(method, tree.nodes[method], a, b, c);
            for (int turn = 0; turn < TURNS && !frame.over && !failed; turn++) {
                if (frame.atBlockEnd()) {
                    closeBlock(frame);
                } else {
                    perform(frame);
                }
            }
            release(frame);
            running--;
            return frame.result;
        }

        private void release(Frame frame) {
            for (int i = 0; i < now.size; i++) {
                now.forgotten[i] += frame.held[i];
                forgotten += frame.held[i];
            }
        }

        private void fail(int number, int reason, Frame frame, int place) {
            failed = true;
            frame.place = place;
            latest[0] = number;
            latest[1] = reason;
            latest[2] = running;
            for (int i = 0; i < running; i++) {
                Frame inner = frames[running - 1 - i];
                latest[TRACE + 2 * i] = inner.method;
                latest[TRACE + 2 * i + 1] = inner.place;
            }
        }

        private boolean mayStep(Frame frame, int place) {
            if (steps >= STEPS) {
                fail(TOO_LONG, 0, frame, place);
                return false;
            }
            steps++;
            return true;
        }

        private void closeBlock(Frame frame) {
            int loop = frame.loops[frame.blocks];
            if (frame.blocks == 0) {
                frame.over = true;
            } else if (loop == NONE) {
                frame.blocks--;
            } else {
                frame.at = loop;
                int again = reckon(frame, 1);
                frame.next();
                if (again == 0) {
                    frame.leaveLoop();
                }
            }
        }

        private void perform(Frame frame) {
            int place = frame.at;
            int what = frame.next();
            if (what == ELSE) {
                // It is come to only behind statements of a 19 that were run.
                int passed = frame.next();
                frame.at += passed;
                return;
            }
            if (!mayStep(frame, place)) {
                return;
            }
            switch (what) {
                case 16:
                    storeLocal(frame);
                    break;
                case 17:
                    storeNamed(frame, place);
                    break;
                case 18:
                    storePacked(frame, place);
                    break;
                case 19:
                    branch(frame);
                    break;
                case 21:
                    loop(frame);
                    break;
                case 22:
                    frame.result = reckon(frame, 1);
                    frame.over = true;
                    break;
                case 24:
                    acquire(frame, named(frame, frame.next(), LOCK, place));
                    break;
                case 25:
                    letGo(frame, named(frame, frame.next(), LOCK, place), place);
                    break;
                case 27:
                    frame.leaveLoop();
                    break;
                default:
                    withTerm(frame, what, place);
                    break;
            }
        }

        private void withTerm(Frame frame, int what, int place) {
            int value = reckon(frame, 1);
            if (failed) {
                return;
            }
            if (what == 26) {
                now.notes.write(frame.home, value);
            } else if (what == 28) {
                fail(BY_CODE, value, frame, place);
            }
        }

        private void branch(Frame frame) {
            int value = reckon(frame, 1);
            int n = frame.next();
            if (value != 0) {
                frame.open(n, NONE);
                return;
            }
            frame.at += n;
            if (frame.sees(ELSE)) {
                frame.next();
                n = frame.next();
                frame.open(n, NONE);
            }
        }

        private void loop(Frame frame) {
            int term = frame.at;
            int value = reckon(frame, 1);
            int n = frame.next();
            if (value != 0) {
                frame.open(n, term);
            } else {
                frame.at += n;
            }
        }

        private int named(Frame frame, int name, int kind, int place) {
            int node = tree.find(frame.home, name);
            if (!tree.is(node, kind)) {
                fail(NO_NAME, 0, frame, place);
                return NONE;
            }
            return node;
        }

        private void storeLocal(Frame frame) {
            int local = frame.next() & 3;
            frame.locals[local] = reckon(frame, 1);
        }

        private void storeNamed(Frame frame, int place) {
            int name = frame.next();
            int value = reckon(frame, 1);
            if (failed) {
                return;
            }
            int node = tree.find(frame.home, name);
            if (tree.holdsValue(node)) {
                put(node, value);
            } else {
                fail(NO_NAME, 0, frame, place);
            }
        }

        private void storePacked(Frame frame, int place) {
            int name = frame.next();
            int which = reckon(frame, 1);
            int value = reckon(frame, 1);
            int node = failed ? NONE : named(frame, name, PACKAGE, place);
            if (hasValue(frame, node, which, place)) {
                now.packed[node * PACK + which] = value;
            }
        }

        private int readPacked(Frame frame, int deep, int place) {
            int name = frame.next();
            int which = reckon(frame, deep + 1);
            int node = failed ? NONE : named(frame, name, PACKAGE, place);
            return hasValue(frame, node, which, place) ? now.packed[node * PACK + which] : 0;
        }

        private boolean hasValue(Frame frame, int node, int which, int place) {
            if (node == NONE) {
                return false;
            }
            if (which >= tree.nodes[node].length) {
                fail(NO_VALUE, 0, frame, place);
                return false;
            }
            return true;
        }

        private static void acquire(Frame frame, int lock) {
            if (lock != NONE) {
                frame.held[lock]++;
            }
        }

        private void letGo(Frame frame, int lock, int place) {
            if (lock == NONE) {
                return;
            }
            if (frame.held[lock] == 0) {
                fail(NOT_HELD, 0, frame, place);
            } else {
                frame.held[lock]--;
            }
        }

        private int reckon(Frame frame, int deep) {
            int place = frame.at;
            if (failed || deep > TERMS_DEEP || !mayStep(frame, place)) {
                return 0;
            }
            int what = frame.next();
            switch (what) {
                case 0:
                    return frame.next();
                case 1:
                    return frame.next() * 256 + frame.next();
                case 2:
                    return frame.locals[frame.next() & 3];
                case 3:
                    return frame.args[frame.next() & 3];
                case 4:
                    return valueNamed(frame, place);
                case 5:
                    return runNamed(frame, deep, place);
                case 6:
                    return readPacked(frame, deep, place);
                case 7:
                    return combined(frame, deep, place);
                case 8:
                    return reckon(frame, deep + 1) == 0 ? 1 : 0;
                default:
                    return isOn(named(frame, frame.next(), RESOURCE, place)) ? 1 : 0;
            }
        }

        private boolean isOn(int resource) {
            return resource != NONE && now.counts[resource] > 0;
        }

        private int valueNamed(Frame frame, int place) {
            int node = tree.find(frame.home, frame.next());
            if (tree.is(node, NUMBER)) {
                return now.values[node];
            }
            if (tree.is(node, FIELD)) {
                return now.registers.fetch(tree.nodes[node]);
            }
            fail(NO_NAME, 0, frame, place);
            return 0;
        }

        private int runNamed(Frame frame, int deep, int place) {
            int name = frame.next();
            int many = frame.next();
            int a = many > 0 ? reckon(frame, deep + 1) : 0;
            int b = many > 1 ? reckon(frame, deep + 1) : 0;
            int c = many > 2 ? reckon(frame, deep + 1) : 0;
            if (failed) {
                return 0;
            }
            int method = named(frame, name, METHOD, place);
            if (method == NONE) {
                return 0;
            }
            if (tree.nodes[method].args != many) {
                fail(OTHER_ARGS, 0, frame, place);
                return 0;
            }
            if (running >= METHODS_DEEP) {
                fail(TOO_DEEP, 0, frame, place);
                return 0;
            }
            frame.place = place;
            return enter(method, a, b, c);
        }

        private int combined(Frame frame, int deep, int place) {
            int how = frame.next();
            int left = reckon(frame, deep + 1);
            int right = reckon(frame, deep + 1);
            if (failed) {
                return 0;
            }
            if (right == 0 && (how == 3 || how == 4)) {
                fail(BY_ZERO, 0, frame, place);
                return 0;
            }
            return joined(how, left, right) & NUMBERS - 1;
        }

        private static int joined(int how, int left, int right) {
            switch (how) {
                case 0:
                    return left + right;
                case 1:
                    return left - right;
                case 2:
                    return left * right;
                case 3:
                    return right == 0 ? 0 : left / right;
                case 4:
                    return right == 0 ? 0 : left % right;
                case 5:
                    return left & right;
                case 6:
                    return left | right;
                case 7:
                    return left ^ right;
                case 8:
                    return left < right ? 1 : 0;
                default:
                    return left == right ? 1 : 0;
            }
        }
    }

    /** What devices want of the resources, and the counts and switches that this takes. */
    private static final class Powers {
        private final Tree tree;
        private final State now;
        private final int[] fresh = new int[PACK];
        private final int[] remembered = new int[PACK];

        Powers(Tree itsTree, State state) {
            tree = itsTree;
            now = state;
        }

        boolean can(int device, int power) {
            if (power == OFF) {
                return true;
            }
            int node = tree.own(device, 'p' + power, PACKAGE);
            return node == NONE ? power == 0 : allResources(device, node, 0);
        }

        boolean canArm(int device) {
            int node = tree.own(device, 'w', PACKAGE);
            if (node == NONE || tree.nodes[node].length < 2) {
                return false;
            }
            int depth = now.packed[node * PACK + 1];
            return isLine(now.packed[node * PACK]) && depth >= 1 && depth <= RESTS && allResources(device, node, 2);
        }

        private boolean allResources(int device, int node, int from) {
            for (int i = from; i < tree.nodes[node].length; i++) {
                if (!tree.is(tree.find(device, now.packed[node * PACK + i]), RESOURCE)) {
                    return false;
                }
            }
            return true;
        }

        int leastBelow(int device) {
            int least = OFF;
            for (int i = 1; i < now.size; i++) {
                if (tree.nodes[i].kind == DEVICE && tree.nodes[i].parent == device) {
                    least = Math.min(least, now.powers[i]);
                }
            }
            return least;
        }

        void remember(int device) {
            System.arraycopy(now.wanting, device * PACK, remembered, 0, PACK);
        }

        void takeBack(int device, int power) {
            change(device, power, remembered, 0);
        }

        /** How many switches it took to give a device another power. */
        int become(int device, int power) {
            int node = power == OFF ? NONE : tree.own(device, 'p' + power, PACKAGE);
            gather(device, node, 0);
            return change(device, power, fresh, 0);
        }

        /** Gives a device the power, and what it wanted then, that it had ahead of the rest. */
        void putBack(int device) {
            if (now.powers[device] != now.oldPowers[device]) {
                change(device, now.oldPowers[device], now.oldWanting, device * PACK);
            }
        }

        private void gather(int device, int node, int from) {
            Arrays.fill(fresh, NONE);
            int behind = node == NONE ? 0 : tree.nodes[node].length;
            for (int i = from; i < behind; i++) {
                fresh[i - from] = tree.find(device, now.packed[node * PACK + i]);
            }
        }

        /** The new ones are counted ahead of the old ones, so that what both have stays on. */
        private int change(int device, int power, int[] row, int from) {
            int own = device * PACK;
            int turned = include(row, from, PACK) + exclude(now.wanting, own, PACK);
            System.arraycopy(row, from, now.wanting, own, PACK);
            now.powers[device] = power;
            return turned;
        }

        void tie(int device) {
            int node = tree.own(device, 'w', PACKAGE);
            if (node == NONE) {
                return;
            }
            gather(device, node, 2);
            include(fresh, 0, TIES);
            System.arraycopy(fresh, 0, now.tied, device * TIES, TIES);
            now.lines[device] = now.packed[node * PACK];
            now.depths[device] = now.packed[node * PACK + 1];
        }

        int untie(int device) {
            int turned = exclude(now.tied, device * TIES, TIES);
            Arrays.fill(now.tied, device * TIES, device * TIES + TIES, NONE);
            now.lines[device] = NONE;
            return turned;
        }

        private int include(int[] row, int from, int many) {
            int turned = 0;
            for (int i = from; i < from + many; i++) {
                int resource = row[i];
                if (resource != NONE) {
                    turned |= now.counts[resource] == 0 ? 1 << resource : 0;
                    now.counts[resource]++;
                }
            }
            return turn(turned, 1);
        }

        private int exclude(int[] row, int from, int many) {
            int turned = 0;
            for (int i = from; i < from + many; i++) {
                int resource = row[i];
                if (resource != NONE) {
                    now.counts[resource]--;
                    turned |= now.counts[resource] == 0 ? 1 << resource : 0;
                }
            }
            return turn(turned, 0);
        }

        private int turn(int resources, int on) {
            int left = resources;
            for (int i = 0; i < NODES && left != 0; i++) {
                int next = on == 1 ? lowest(left) : highest(left);
                now.switches.write(next, on);
                left &= ~(1 << next);
            }
            return Integer.bitCount(resources);
        }

        private int lowest(int resources) {
            int best = 0;
            for (int i = 1; i < NODES; i++) {
                if ((resources >> i & 1) != 0 && (best == 0 || tree.nodes[i].rank < tree.nodes[best].rank)) {
                    best = i;
                }
            }
            return best;
        }

        private int highest(int resources) {
            int best = 0;
            for (int i = 1; i < NODES; i++) {
                if ((resources >> i & 1) != 0 && (best == 0 || tree.nodes[i].rank >= tree.nodes[best].rank)) {
                    best = i;
                }
            }
            return best;
        }

        long needs(int device) {
            return bits(now.wanting, device * PACK, PACK) | bits(now.tied, device * TIES, TIES);
        }

        private static long bits(int[] row, int from, int many) {
            long bits = 0;
            for (int i = from; i < from + many; i++) {
                bits |= row[i] == NONE ? 0 : 1L << row[i];
            }
            return bits;
        }

        int resourcesOn() {
            int on = 0;
            for (int i = 0; i < now.size; i++) {
                on += tree.nodes[i].kind == RESOURCE && now.counts[i] > 0 ? 1 : 0;
            }
            return on;
        }

        int armedDevices() {
            int armed = 0;
            for (int i = 0; i < now.size; i++) {
                armed += now.lines[i] == NONE ? 0 : 1;
            }
            return armed;
        }
    }

    /** How the board comes to rest, what is in the way of that, and how it wakes. */
    private static final class Rests {
        private static final int NOT_THERE = 1;
        private static final int TOO_SHALLOW = 2;
        private static final int LOW_LEVEL = 3;
        private static final int LINE_UP = 4;
        private static final int OF_LINE = 1000;

        private final Tree tree;
        private final State now;
        private final Machine machine;
        private final Powers powers;
        private final int[] turns = new int[NODES];

        Rests(Tree itsTree, State state, Machine itsMachine, Powers itsPowers) {
            tree = itsTree;
            now = state;
            machine = itsMachine;
            powers = itsPowers;
        }

        /** The first reason why the rest is not allowed; 0 without one. */
        int obstacle(int k) {
            if (numberOf(k) == NONE) {
                return NOT_THERE;
            }
            int first = LINE_UP + 1;
            for (int i = 0; i < now.size; i++) {
                if (now.lines[i] != NONE) {
                    first = Math.min(first, obstacleBy(i, k));
                }
            }
            return first > LINE_UP ? 0 : first;
        }

        private int obstacleBy(int device, int k) {
            if (now.depths[device] < k) {
                return TOO_SHALLOW;
            }
            for (int i = device * TIES; i < device * TIES + TIES; i++) {
                if (now.tied[i] != NONE && tree.nodes[now.tied[i]].level < k) {
                    return LOW_LEVEL;
                }
            }
            return (now.raised >> now.lines[device] & 1) != 0 ? LINE_UP : LINE_UP + 1;
        }

        private int numberOf(int k) {
            return tree.own(ROOT, 'i' + k - 1, NUMBER);
        }

        int inTurn(int i) {
            int many = sortDevices();
            return i >= 0 && i < many ? turns[i] : NONE;
        }

        private int sortDevices() {
            int many = 0;
            for (int above = mostAbove(); above > 0; above--) {
                for (int i = now.size - 1; i > 0; i--) {
                    if (tree.nodes[i].kind == DEVICE && tree.nodes[i].above == above) {
                        turns[many] = i;
                        many++;
                    }
                }
            }
            return many;
        }

        private int mostAbove() {
            int most = 0;
            for (int i = 0; i < now.size; i++) {
                most = Math.max(most, tree.nodes[i].above);
            }
            return most;
        }

        /** How many devices have another power by it; below 0 what it is refused by. */
        int enter(int k) {
            machine.forgetSteps();
            now.rememberPowers();
            int many = sortDevices();
            int refusal = 0;
            for (int i = 0; i < many && refusal == 0; i++) {
                refusal = settle(turns[i], k);
            }
            if (refusal == 0 && someStaysOn(k)) {
                refusal = STAYS_ON;
            }
            if (refusal == 0) {
                now.resting = k;
                return changed();
            }
            for (int i = many - 1; i >= 0; i--) {
                powers.putBack(turns[i]);
            }
            return refusal;
        }

        private int settle(int device, int k) {
            int method = tree.ownMethod(device, 'z');
            if (method != NONE && machine.run(method, k, 0, 0) == NONE) {
                return FAILED;
            }
            int power = powerFor(device, k);
            if (power == NONE) {
                return CANNOT;
            }
            if (power != now.powers[device]) {
                powers.become(device, power);
            }
            return 0;
        }

        private int powerFor(int device, int k) {
            boolean armed = now.lines[device] != NONE;
            int least = armed ? Math.max(now.powers[device], leastOf(k)) : now.powers[device];
            int most = powers.leastBelow(device);
            int found = NONE;
            for (int power = least; power <= most; power++) {
                if (powers.can(device, power) && (found == NONE || !armed)) {
                    found = power;
                }
            }
            return found;
        }

        private int leastOf(int k) {
            int node = numberOf(k);
            return node == NONE ? 0 : Math.min(now.values[node], OFF);
        }

        private boolean someStaysOn(int k) {
            for (int i = 0; i < now.size; i++) {
                if (tree.nodes[i].kind == RESOURCE && tree.nodes[i].level < k && now.counts[i] > 0) {
                    return true;
                }
            }
            return false;
        }

        private int changed() {
            int many = 0;
            for (int i = 0; i < now.size; i++) {
                many += now.powers[i] != now.oldPowers[i] ? 1 : 0;
            }
            return many;
        }

        /** How many devices are tied to the line that is raised. */
        int lift(int line) {
            machine.forgetSteps();
            now.raised |= 1 << line;
            int many = tiedTo(line);
            if (many > 0 && now.resting != 0) {
                wake(now.resting);
            }
            for (int i = 0; i < now.size; i++) {
                if (now.lines[i] == line) {
                    now.notes.write(i, OF_LINE + line);
                }
            }
            return many;
        }

        private int tiedTo(int line) {
            int many = 0;
            for (int i = 0; i < now.size; i++) {
                many += now.lines[i] == line ? 1 : 0;
            }
            return many;
        }

        private void wake(int k) {
            now.resting = 0;
            for (int i = sortDevices() - 1; i >= 0; i--) {
                powers.putBack(turns[i]);
                int method = tree.ownMethod(turns[i], 'y');
                if (method != NONE) {
                    machine.run(method, k, 0, 0);
                }
            }
        }
    }

    /** The last acts that can be undone: the state ahead of each. */
    private static final class History {
        private static final int ROOM = 8;

        private final State now;
        private final State[] states = new State[ROOM];
        private final int[] acts = new int[ROOM];
        private int kept;
        private int next;

        History(State state) {
            now = state;
            for (int i = 0; i < ROOM; i++) {
                states[i] = new State();
            }
        }

        int kept() {
            return kept;
        }

        void keep(int act) {
            states[next].take(now);
            acts[next] = act;
            next = next + 1 < ROOM ? next + 1 : 0;
            kept = Math.min(kept + 1, ROOM);
        }

        int takeBack() {
            next = next > 0 ? next - 1 : ROOM - 1;
            kept--;
            now.take(states[next]);
            return acts[next];
        }
    }
}
