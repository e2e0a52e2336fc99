/**
 * A small machine: methods of bytes over ints and arrays of ints, with handlers for what goes wrong,
 * are checked by the types that flow through them, and then run step by step.
 */
public final class FrameWalk {
    public static final int NONE = -1;

    private static final int MOST_ARGUMENTS = 4;
    private static final int MOST_LOCALS = 8;
    private static final int MOST_HEIGHT = 8;
    private static final int MOST_STEPS = 100;

    private final Code code;
    private final Shape shape;
    private final Flow flow;
    private final Machine machine;
    private final int[] given;
    private int givenCount;
    private boolean verified;
    private int latestFault;

    public FrameWalk() {
        code = new Code();
        shape = new Shape(code);
        flow = new Flow(code);
        machine = new Machine(code);
        given = new int[MOST_ARGUMENTS];
        givenCount = 0;
        verified = false;
        latestFault = NONE;
    }

    public int feed(int b) throws IllegalStateException {
        if (verified || !code.addByte(b)) {
            throw new IllegalStateException();
        }
        return code.byteCount;
    }

    public int method(int length, int arguments, int locals, int height, boolean givesInt)
            throws IllegalArgumentException, IllegalStateException {
        if (!areMethodNumbers(arguments, locals, height) || length < 1 || length > code.bytesLeft()) {
            throw new IllegalArgumentException();
        }
        if (verified || code.methodCount >= Code.MOST_METHODS) {
            throw new IllegalStateException();
        }
        return code.addMethod(length, arguments, locals, height, givesInt);
    }

    private static boolean areMethodNumbers(int arguments, int locals, int height) {
        return arguments >= 0 && arguments <= MOST_ARGUMENTS
                && locals >= arguments && locals <= MOST_LOCALS
                && height >= 0 && height <= MOST_HEIGHT;
    }

    public boolean handler(int from, int to, int target, int kind) {
        return !verified && code.addHandler(from, to, target, kind);
    }

    public int verify() throws IllegalArgumentException, IllegalStateException {
        if (verified || code.methodCount == 0) {
            throw new IllegalStateException();
        }
        latestFault = NONE;
        for (int m = 0; m < code.methodCount && latestFault == NONE; m++) {
            boolean hasShape = shape.holdsFor(code.methods[m]);
            if (!hasShape || !flow.holdsFor(code.methods[m])) {
                latestFault = hasShape ? 2 * m + 1 : 2 * m;
            }
        }
        if (latestFault != NONE) {
            throw new IllegalArgumentException();
        }
        verified = true;
        return flow.countStates();
    }

    public int fault() {
        return latestFault;
    }

    public void clear() {
        code.forget();
        machine.forget();
        givenCount = 0;
        verified = false;
        latestFault = NONE;
    }

    public boolean argument(int v) {
        if (givenCount >= MOST_ARGUMENTS) {
            return false;
        }
        given[givenCount] = v;
        givenCount++;
        return true;
    }

    public boolean start(int m) throws IllegalArgumentException, IllegalStateException {
        if (!code.hasMethod(m) || code.methods[m].arguments != givenCount) {
            throw new IllegalArgumentException();
        }
        if (!verified) {
            throw new IllegalStateException();
        }
        machine.begin(m, given);
        givenCount = 0;
        return true;
    }

    public int run(int n) throws IllegalArgumentException {
        if (n < 0 || n > MOST_STEPS) {
            throw new IllegalArgumentException();
        }
        int steps = 0;
        while (steps < n && machine.isRunning()) {
            machine.step();
            steps++;
        }
        return steps;
    }

    public int state() {
        return machine.condition;
    }

    public int result() {
        return machine.outcome;
    }

    public int depth() {
        return machine.frameCount;
    }

    public int frame(int k, int what) {
        if (k < 0 || k >= machine.frameCount) {
            return NONE;
        }
        Frame shown = machine.frameBelow(k);
        switch (what) {
            case 0:
                return shown.body.number;
            case 1:
                return shown.place;
            case 2:
                return shown.high;
            default:
                return NONE;
        }
    }

    public int local(int n) {
        return machine.showLocal(n);
    }

    public int stack(int k) {
        return machine.showStack(k);
    }

    public int getStatic(int i) {
        return machine.showStatic(i);
    }

    public int heap(int k) {
        return k == NONE ? machine.heapTaken : machine.showHeap(k);
    }

    public int type(int m, int place, int k) {
        if (!verified || !code.hasMethod(m)) {
            return NONE;
        }
        return flow.showType(code.methods[m], place, k);
    }

    private static final class Handler {
        int from;
        int to;
        int target;
        int kind;

        boolean covers(int place) {
            return from <= place && place < to;
        }
    }

    private static final class Method {
        static final int MOST_HANDLERS = 4;

        final int number;
        final Handler[] handlers;
        int handlerCount;
        int first;
        int length;
        int arguments;
        int locals;
        int height;
        boolean givesInt;

        Method(int number) {
            this.number = number;
            handlers = new Handler[MOST_HANDLERS];
            for (int h = 0; h < MOST_HANDLERS; h++) {
                handlers[h] = new Handler();
            }
        }

        int end() {
            return first + length;
        }

        int cellsNeeded() {
            return locals + height + 1;
        }

        int findTarget(int place, int kind) {
            for (int h = 0; h < handlerCount; h++) {
                Handler it = handlers[h];
                if (it.covers(place) && (it.kind == 0 || it.kind == kind)) {
                    return it.target;
                }
            }
            return NONE;
        }
    }

    private static final class Code {
        static final int MOST_BYTES = 200;
        static final int MOST_METHODS = 8;

        final int[] bytes;
        final Method[] methods;
        int byteCount;
        int methodCount;

        Code() {
            bytes = new int[MOST_BYTES];
            methods = new Method[MOST_METHODS];
            for (int m = 0; m < MOST_METHODS; m++) {
                methods[m] = new Method(m);
            }
        }

        void forget() {
            byteCount = 0;
            methodCount = 0;
        }

        boolean addByte(int b) {
            if (byteCount >= MOST_BYTES) {
                return false;
            }
            bytes[byteCount] = b & 255;
            byteCount++;
            return true;
        }

        int addMethod(int length, int arguments, int locals, int height, boolean givesInt) {
            Method added = methods[methodCount];
            added.first = methodsEnd();
            added.length = length;
            added.arguments = arguments;
            added.locals = locals;
            added.height = height;
            added.givesInt = givesInt;
            added.handlerCount = 0;
            methodCount++;
            return added.number;
        }

        boolean addHandler(int from, int to, int target, int kind) {
            if (methodCount == 0) {
                return false;
            }
            Method latest = methods[methodCount - 1];
            if (latest.handlerCount >= Method.MOST_HANDLERS) {
                return false;
            }
            Handler added = latest.handlers[latest.handlerCount];
            added.from = from;
            added.to = to;
            added.target = target;
            added.kind = kind;
            latest.handlerCount++;
            return true;
        }

        int methodsEnd() {
            return methodCount == 0 ? 0 : methods[methodCount - 1].end();
        }

        int bytesLeft() {
            return byteCount - methodsEnd();
        }

        boolean hasMethod(int m) {
            return m >= 0 && m < methodCount;
        }

        /** An instruction that is cut off is still looked at for its size, so bytes behind the code read as 0. */
        int byteAt(int at) {
            return at >= 0 && at < byteCount ? bytes[at] : 0;
        }
    }

    /** Only the long form of an operation has a name: an Instruction tells no short forms. */
    private static final class Op {
        static final int NULL = 1;
        static final int PUSH_MINUS_ONE = 2;
        static final int PUSH_FIVE = 8;
        static final int PUSH_BYTE = 16;
        static final int PUSH = 17;
        static final int INT_LOAD = 21;
        static final int REF_LOAD = 25;
        static final int INT_LOAD_SHORT = 26;
        static final int REF_LOAD_SHORT = 42;
        static final int ALOAD = 46;
        static final int INT_STORE = 54;
        static final int REF_STORE = 58;
        static final int INT_STORE_SHORT = 59;
        static final int REF_STORE_SHORT = 75;
        static final int ASTORE = 79;
        static final int POP = 87;
        static final int DUP = 89;
        static final int SWAP = 95;
        static final int ADD = 96;
        static final int SUBTRACT = 100;
        static final int MULTIPLY = 104;
        static final int DIVIDE = 108;
        static final int REMAINDER = 112;
        static final int NEGATE = 116;
        static final int SHIFT_LEFT = 120;
        static final int SHIFT_RIGHT = 122;
        static final int SHIFT_RIGHT_ZEROS = 124;
        static final int AND = 126;
        static final int OR = 128;
        static final int XOR = 130;
        static final int GROW = 132;
        static final int IF_TO_ZERO = 153;
        static final int IF_INTS = 159;
        static final int IF_REFS = 165;
        static final int JUMP = 167;
        static final int GIVE_INT = 172;
        static final int GIVE_NOTHING = 177;
        static final int STATIC_LOAD = 178;
        static final int STATIC_STORE = 179;
        static final int CALL = 184;
        static final int NEW_ARRAY = 188;
        static final int LENGTH = 190;
        static final int IF_NULL = 198;
        static final int IF_NOT_NULL = 199;

        private static final int SHORT_FORMS = 4;

        static boolean isShort(int operation, int firstShort) {
            return operation >= firstShort && operation < firstShort + SHORT_FORMS;
        }

        static boolean isSmallPush(int operation) {
            return operation >= PUSH_MINUS_ONE && operation <= PUSH_FIVE;
        }

        static boolean isJump(int operation) {
            return operation >= IF_TO_ZERO && operation <= JUMP
                    || operation == IF_NULL || operation == IF_NOT_NULL;
        }

        static boolean usesLocal(int operation) {
            return operation == INT_LOAD || operation == REF_LOAD
                    || operation == INT_STORE || operation == REF_STORE || operation == GROW;
        }

        static boolean isCalculation(int operation) {
            switch (operation) {
                case ADD:
                case SUBTRACT:
                case MULTIPLY:
                case DIVIDE:
                case REMAINDER:
                case SHIFT_LEFT:
                case SHIFT_RIGHT:
                case SHIFT_RIGHT_ZEROS:
                case AND:
                case OR:
                case XOR:
                    return true;
                default:
                    return false;
            }
        }

        /** How many bytes a long form takes with its operands; 0 if it is no operation. */
        static int sizeOf(int operation) {
            if (isJump(operation)) {
                return 3;
            }
            if (isCalculation(operation)) {
                return 1;
            }
            switch (operation) {
                case NULL:
                case ALOAD:
                case ASTORE:
                case POP:
                case DUP:
                case SWAP:
                case NEGATE:
                case GIVE_INT:
                case GIVE_NOTHING:
                case LENGTH:
                    return 1;
                case INT_LOAD:
                case REF_LOAD:
                case INT_STORE:
                case REF_STORE:
                case NEW_ARRAY:
                    return 2;
                case PUSH:
                case GROW:
                case STATIC_LOAD:
                case STATIC_STORE:
                case CALL:
                    return 3;
                default:
                    return 0;
            }
        }
    }

    /** One instruction in its long form, whichever form the bytes have, so that only one form is checked and run. */
    private static final class Instruction {
        int operation;
        int number;
        int growth;
        int size;

        void read(Code code, int at) {
            int told = code.byteAt(at);
            int second = code.byteAt(at + 1);
            if (readPush(told, second)
                    || readShort(told, Op.INT_LOAD_SHORT, Op.INT_LOAD)
                    || readShort(told, Op.REF_LOAD_SHORT, Op.REF_LOAD)
                    || readShort(told, Op.INT_STORE_SHORT, Op.INT_STORE)
                    || readShort(told, Op.REF_STORE_SHORT, Op.REF_STORE)) {
                return;
            }
            readLong(told, second, code.byteAt(at + 2));
        }

        private boolean readPush(int told, int second) {
            if (Op.isSmallPush(told)) {
                keep(Op.PUSH, told - Op.PUSH_MINUS_ONE - 1, 1);
                return true;
            }
            if (told == Op.PUSH_BYTE) {
                keep(Op.PUSH, (byte) second, 2);
                return true;
            }
            return false;
        }

        private boolean readShort(int told, int firstShort, int longForm) {
            if (!Op.isShort(told, firstShort)) {
                return false;
            }
            keep(longForm, told - firstShort, 1);
            return true;
        }

        private void readLong(int told, int second, int third) {
            int toldSize = Op.sizeOf(told);
            boolean isWord = toldSize == 3 && told != Op.GROW;
            keep(told, isWord ? (short) (second << 8 | third) : second, toldSize);
            growth = (byte) third;
        }

        private void keep(int operation, int number, int size) {
            this.operation = operation;
            this.number = number;
            this.size = size;
        }
    }

    private static final class Shape {
        private static final int MOST_KIND = 4;
        private static final int ARRAY_OF_INTS = 10;

        private final Code code;
        private final Instruction now;
        private final boolean[] begins;

        Shape(Code code) {
            this.code = code;
            now = new Instruction();
            begins = new boolean[Code.MOST_BYTES];
        }

        boolean holdsFor(Method m) {
            return findBeginnings(m) && jumpsHold(m) && handlersHold(m);
        }

        private boolean findBeginnings(Method m) {
            int next = m.first;
            for (int at = m.first; at < m.end(); at++) {
                begins[at] = at == next;
                if (begins[at]) {
                    now.read(code, at);
                    next = at + now.size;
                    if (now.size == 0 || next > m.end() || !operandsHold(m)) {
                        return false;
                    }
                }
            }
            return true;
        }

        private boolean operandsHold(Method m) {
            if (Op.usesLocal(now.operation)) {
                return now.number < m.locals;
            }
            switch (now.operation) {
                case Op.STATIC_LOAD:
                case Op.STATIC_STORE:
                    return now.number >= 0 && now.number < Machine.STATICS;
                case Op.CALL:
                    return code.hasMethod(now.number);
                case Op.NEW_ARRAY:
                    return now.number == ARRAY_OF_INTS;
                default:
                    return true;
            }
        }

        private boolean jumpsHold(Method m) {
            for (int place = 0; place < m.length; place++) {
                if (isBeginning(m, place)) {
                    now.read(code, m.first + place);
                    if (Op.isJump(now.operation) && !isBeginning(m, place + now.number)) {
                        return false;
                    }
                }
            }
            return true;
        }

        private boolean handlersHold(Method m) {
            for (int h = 0; h < m.handlerCount; h++) {
                if (!handlerHolds(m, m.handlers[h])) {
                    return false;
                }
            }
            return true;
        }

        private boolean handlerHolds(Method m, Handler it) {
            return it.from < it.to
                    && isBeginning(m, it.from)
                    && (it.to == m.length || isBeginning(m, it.to))
                    && isBeginning(m, it.target)
                    && it.kind >= 0 && it.kind <= MOST_KIND;
        }

        private boolean isBeginning(Method m, int place) {
            return place >= 0 && place < m.length && begins[m.first + place];
        }
    }

    /** Rows of types, two bits each, the first type lowest: a whole row is compared and copied as one int. */
    private static final class Types {
        static final int NOTHING = 0;
        static final int INT = 1;
        static final int REF = 2;

        // What operations take off the stack, the top first.
        private static final int TWO_INTS = INT | INT << 2;
        private static final int TWO_REFS = REF | REF << 2;
        private static final int INDEX_AND_ARRAY = INT | REF << 2;
        private static final int INT_INDEX_AND_ARRAY = INT | INT << 2 | REF << 4;

        private static final int LOW_BITS = 0x5555;

        static int at(int row, int k) {
            return row >> 2 * k & 3;
        }

        static int with(int row, int k, int kind) {
            return row & ~(3 << 2 * k) | kind << 2 * k;
        }

        /** A local on whose type two rows do not agree may not be read any more. */
        static int common(int row, int other) {
            int differing = row ^ other;
            int differingTypes = (differing | differing >> 1) & LOW_BITS;
            return row & ~(differingTypes | differingTypes << 1);
        }

        /** What a plain operation needs in its local; NOTHING if it reads none. */
        static int readFromLocal(int operation) {
            switch (operation) {
                case Op.INT_LOAD:
                case Op.GROW:
                    return INT;
                case Op.REF_LOAD:
                    return REF;
                default:
                    return NOTHING;
            }
        }

        static int writtenToLocal(int operation) {
            switch (operation) {
                case Op.INT_STORE:
                    return INT;
                case Op.REF_STORE:
                    return REF;
                default:
                    return NOTHING;
            }
        }

        /** What a plain operation takes off the stack, as a row with the top first. */
        static int taken(int operation) {
            if (Op.isCalculation(operation) || operation >= Op.IF_INTS && operation < Op.IF_REFS) {
                return TWO_INTS;
            }
            if (operation >= Op.IF_TO_ZERO && operation < Op.IF_INTS) {
                return INT;
            }
            if (operation >= Op.IF_REFS && operation < Op.JUMP) {
                return TWO_REFS;
            }
            switch (operation) {
                case Op.INT_STORE:
                case Op.NEGATE:
                case Op.GIVE_INT:
                case Op.STATIC_STORE:
                case Op.NEW_ARRAY:
                    return INT;
                case Op.REF_STORE:
                case Op.LENGTH:
                case Op.IF_NULL:
                case Op.IF_NOT_NULL:
                    return REF;
                case Op.ALOAD:
                    return INDEX_AND_ARRAY;
                case Op.ASTORE:
                    return INT_INDEX_AND_ARRAY;
                default:
                    return NOTHING;
            }
        }

        /** What a plain operation puts on the stack; NOTHING if it puts none. */
        static int put(int operation) {
            if (Op.isCalculation(operation)) {
                return INT;
            }
            switch (operation) {
                case Op.PUSH:
                case Op.INT_LOAD:
                case Op.ALOAD:
                case Op.NEGATE:
                case Op.STATIC_LOAD:
                case Op.LENGTH:
                    return INT;
                case Op.NULL:
                case Op.REF_LOAD:
                case Op.NEW_ARRAY:
                    return REF;
                default:
                    return NOTHING;
            }
        }
    }

    /** Finds the states of a method's instructions; they are kept by where the instruction lies in the code. */
    private static final class Flow {
        private static final int MOST_TAKEN = 3;
        // A state comes once, and then each of its locals can only turn to NONE once.
        private static final int MOST_VISITS = Code.MOST_BYTES * (MOST_LOCALS + 1);

        private final Code code;
        private final Instruction now;
        private final int[] foundLocals;
        private final int[] foundStack;
        private final int[] foundHeight;
        private final int[] waiting;
        private final boolean[] isWaiting;
        private int waitingCount;
        private int locals;
        private int row;
        private int height;

        Flow(Code code) {
            this.code = code;
            now = new Instruction();
            foundLocals = new int[Code.MOST_BYTES];
            foundStack = new int[Code.MOST_BYTES];
            foundHeight = new int[Code.MOST_BYTES];
            waiting = new int[Code.MOST_BYTES];
            isWaiting = new boolean[Code.MOST_BYTES];
        }

        boolean holdsFor(Method m) {
            forgetStates(m);
            if (!comeTo(m, 0, argumentTypes(m), 0, 0)) {
                return false;
            }
            for (int visits = 0; visits < MOST_VISITS && waitingCount > 0; visits++) {
                waitingCount--;
                int place = waiting[waitingCount];
                isWaiting[m.first + place] = false;
                if (!visit(m, place)) {
                    return false;
                }
            }
            return true;
        }

        private void forgetStates(Method m) {
            for (int at = m.first; at < m.end(); at++) {
                foundHeight[at] = NONE;
                isWaiting[at] = false;
            }
            waitingCount = 0;
        }

        private static int argumentTypes(Method m) {
            int types = 0;
            for (int n = 0; n < m.arguments; n++) {
                types = Types.with(types, n, Types.INT);
            }
            return types;
        }

        private boolean comeTo(Method m, int place, int comingLocals, int comingRow, int comingHeight) {
            if (place < 0 || place >= m.length) {
                return false;
            }
            int at = m.first + place;
            if (foundHeight[at] == NONE) {
                foundLocals[at] = comingLocals;
                foundStack[at] = comingRow;
                foundHeight[at] = comingHeight;
                awaitVisit(m, place);
                return true;
            }
            if (foundHeight[at] != comingHeight || foundStack[at] != comingRow) {
                return false;
            }
            int both = Types.common(foundLocals[at], comingLocals);
            if (both != foundLocals[at]) {
                foundLocals[at] = both;
                awaitVisit(m, place);
            }
            return true;
        }

        private void awaitVisit(Method m, int place) {
            int at = m.first + place;
            if (!isWaiting[at] && waitingCount < waiting.length) {
                isWaiting[at] = true;
                waiting[waitingCount] = place;
                waitingCount++;
            }
        }

        private boolean visit(Method m, int place) {
            int at = m.first + place;
            locals = foundLocals[at];
            row = foundStack[at];
            height = foundHeight[at];
            now.read(code, at);
            return comeToHandlers(m, place)
                    && applyInstruction(m)
                    && height <= m.height
                    && comeToHandlers(m, place)
                    && comeToFollowers(m, place);
        }

        private boolean comeToHandlers(Method m, int place) {
            for (int h = 0; h < m.handlerCount; h++) {
                Handler it = m.handlers[h];
                if (it.covers(place) && (m.height < 1 || !comeTo(m, it.target, locals, Types.INT, 1))) {
                    return false;
                }
            }
            return true;
        }

        private boolean comeToFollowers(Method m, int place) {
            int operation = now.operation;
            if (operation == Op.GIVE_INT || operation == Op.GIVE_NOTHING) {
                return true;
            }
            if (Op.isJump(operation) && !comeTo(m, place + now.number, locals, row, height)) {
                return false;
            }
            return operation == Op.JUMP || comeTo(m, place + now.size, locals, row, height);
        }

        private boolean applyInstruction(Method m) {
            switch (now.operation) {
                case Op.POP:
                    return takeAny() != Types.NOTHING;
                case Op.DUP:
                    return applyDup();
                case Op.SWAP:
                    return applySwap();
                case Op.CALL:
                    return applyCall();
                case Op.GIVE_INT:
                    return m.givesInt && applyPlain();
                case Op.GIVE_NOTHING:
                    return !m.givesInt;
                default:
                    return applyPlain();
            }
        }

        private boolean applyDup() {
            int top = takeAny();
            put(top);
            put(top);
            return top != Types.NOTHING;
        }

        private boolean applySwap() {
            int top = takeAny();
            int below = takeAny();
            put(top);
            put(below);
            return top != Types.NOTHING && below != Types.NOTHING;
        }

        private boolean applyCall() {
            if (!code.hasMethod(now.number)) {
                return false;
            }
            Method called = code.methods[now.number];
            for (int n = 0; n < called.arguments; n++) {
                if (takeAny() != Types.INT) {
                    return false;
                }
            }
            if (called.givesInt) {
                put(Types.INT);
            }
            return true;
        }

        private boolean applyPlain() {
            int read = Types.readFromLocal(now.operation);
            if (read != Types.NOTHING && Types.at(locals, now.number) != read) {
                return false;
            }
            int taken = Types.taken(now.operation);
            for (int k = 0; k < MOST_TAKEN; k++) {
                int due = Types.at(taken, k);
                if (due != Types.NOTHING && takeAny() != due) {
                    return false;
                }
            }
            int written = Types.writtenToLocal(now.operation);
            if (written != Types.NOTHING) {
                locals = Types.with(locals, now.number, written);
            }
            put(Types.put(now.operation));
            return true;
        }

        private int takeAny() {
            if (height == 0) {
                return Types.NOTHING;
            }
            height--;
            int taken = Types.at(row, height);
            row = Types.with(row, height, Types.NOTHING);
            return taken;
        }

        private void put(int kind) {
            if (kind != Types.NOTHING) {
                row = Types.with(row, height, kind);
                height++;
            }
        }

        int countStates() {
            int count = 0;
            for (int at = 0; at < code.methodsEnd(); at++) {
                if (foundHeight[at] != NONE) {
                    count++;
                }
            }
            return count;
        }

        int showType(Method m, int place, int k) {
            if (place < 0 || place >= m.length || k < 0) {
                return NONE;
            }
            int at = m.first + place;
            if (k >= m.locals + foundHeight[at] || foundHeight[at] == NONE) {
                return NONE;
            }
            return k < m.locals ? Types.at(foundLocals[at], k) : Types.at(foundStack[at], k - m.locals);
        }
    }

    private static final class Frame {
        Method body;
        int place;
        int firstCell;
        int high;

        int firstStackCell() {
            return firstCell + body.locals;
        }
    }

    /** Runs verified code alone: that the types were checked is why an instruction finds what it takes. */
    private static final class Machine {
        static final int STATICS = 8;

        private static final int CELLS = 80;
        private static final int HEAP_CELLS = 120;

        private static final int IDLE = 0;
        private static final int RUNNING = 1;
        private static final int DONE = 2;
        private static final int NO_ROOM_FOR_FRAME = 7;
        private static final int NO_ROOM_FOR_ARRAY = 8;

        private static final int DIVIDED_BY_ZERO = 1;
        private static final int WAS_NULL = 2;
        private static final int NO_INDEX = 3;
        private static final int NEGATIVE_SIZE = 4;
        private static final int STATE_LESS_KIND = 2;

        private static final int NULL_SHOWN = -1;

        private final Code code;
        private final Instruction now;
        private final int[] cells;
        private final Frame[] frames;
        private final int[] statics;
        private final int[] heapCells;
        private Frame latest;
        int frameCount;
        int heapTaken;
        int condition;
        int outcome;

        Machine(Code code) {
            this.code = code;
            now = new Instruction();
            cells = new int[CELLS];
            // Every frame takes at least one cell.
            frames = new Frame[CELLS];
            for (int k = 0; k < CELLS; k++) {
                frames[k] = new Frame();
                frames[k].body = code.methods[0];
            }
            latest = frames[0];
            statics = new int[STATICS];
            heapCells = new int[HEAP_CELLS];
            condition = IDLE;
        }

        void forget() {
            end(IDLE);
            emptyStaticsAndHeap();
        }

        private void emptyStaticsAndHeap() {
            for (int i = 0; i < STATICS; i++) {
                statics[i] = 0;
            }
            heapTaken = 0;
        }

        boolean isRunning() {
            return condition == RUNNING;
        }

        void begin(int m, int[] given) {
            end(RUNNING);
            emptyStaticsAndHeap();
            openFrame(code.methods[m]);
            for (int n = 0; n < latest.body.arguments; n++) {
                cells[latest.firstCell + n] = given[n];
            }
        }

        private void end(int last) {
            condition = last;
            outcome = 0;
            frameCount = 0;
        }

        private int cellsTaken() {
            return frameCount == 0 ? 0 : latest.firstCell + latest.body.cellsNeeded();
        }

        private void openFrame(Method body) {
            int firstCell = cellsTaken();
            latest = frames[frameCount];
            frameCount++;
            latest.body = body;
            latest.place = 0;
            latest.firstCell = firstCell;
            latest.high = 0;
            for (int n = 0; n < body.locals; n++) {
                cells[firstCell + n] = 0;
            }
        }

        private void closeFrame() {
            frameCount--;
            if (frameCount > 0) {
                latest = frames[frameCount - 1];
            }
        }

        Frame frameBelow(int k) {
            return frames[frameCount - 1 - k];
        }

        int showLocal(int n) {
            return frameCount > 0 && n >= 0 && n < latest.body.locals ? cells[latest.firstCell + n] : 0;
        }

        int showStack(int k) {
            return frameCount > 0 && k >= 0 && k < latest.high
                    ? cells[latest.firstStackCell() + latest.high - 1 - k] : 0;
        }

        int showStatic(int i) {
            return i >= 0 && i < STATICS ? statics[i] : 0;
        }

        int showHeap(int k) {
            return k >= 0 && k < heapTaken ? heapCells[k] : 0;
        }

        private void push(int v) {
            if (latest.high < latest.body.height) {
                cells[latest.firstStackCell() + latest.high] = v;
                latest.high++;
            }
        }

        private int pop() {
            if (latest.high == 0) {
                return 0;
            }
            latest.high--;
            return cells[latest.firstStackCell() + latest.high];
        }

        private void goOn() {
            latest.place += now.size;
        }

        void step() {
            now.read(code, latest.body.first + latest.place);
            if (Op.isCalculation(now.operation)) {
                stepCalculation();
            } else if (Op.isJump(now.operation)) {
                latest.place += isTaken(now.operation) ? now.number : now.size;
            } else if (Op.usesLocal(now.operation)) {
                stepLocal(latest.firstCell + now.number);
            } else {
                stepOther();
            }
        }

        private void stepOther() {
            switch (now.operation) {
                case Op.ALOAD:
                    stepArrayLoad();
                    break;
                case Op.ASTORE:
                    stepArrayStore();
                    break;
                case Op.NEW_ARRAY:
                    stepNewArray(pop());
                    break;
                case Op.LENGTH:
                    stepLength(pop());
                    break;
                case Op.CALL:
                    stepCall(code.methods[now.number]);
                    break;
                case Op.GIVE_INT:
                    leave(pop());
                    break;
                case Op.GIVE_NOTHING:
                    leave(0);
                    break;
                default:
                    stepMove();
                    goOn();
            }
        }

        private void stepMove() {
            switch (now.operation) {
                case Op.NULL:
                    push(NULL_SHOWN);
                    break;
                case Op.PUSH:
                    push(now.number);
                    break;
                case Op.POP:
                    pop();
                    break;
                case Op.DUP:
                    moveDup(pop());
                    break;
                case Op.SWAP:
                    moveSwap(pop(), pop());
                    break;
                case Op.NEGATE:
                    push(-pop());
                    break;
                case Op.STATIC_LOAD:
                    push(statics[now.number]);
                    break;
                case Op.STATIC_STORE:
                    statics[now.number] = pop();
                    break;
                default:
                    break;
            }
        }

        private void moveDup(int top) {
            push(top);
            push(top);
        }

        private void moveSwap(int top, int below) {
            push(top);
            push(below);
        }

        private void stepLocal(int cell) {
            switch (now.operation) {
                case Op.INT_LOAD:
                case Op.REF_LOAD:
                    push(cells[cell]);
                    break;
                case Op.GROW:
                    cells[cell] += now.growth;
                    break;
                default:
                    cells[cell] = pop();
            }
            goOn();
        }

        private void stepCalculation() {
            int second = pop();
            int first = pop();
            if (second == 0 && (now.operation == Op.DIVIDE || now.operation == Op.REMAINDER)) {
                trap(DIVIDED_BY_ZERO);
                return;
            }
            push(calculate(now.operation, first, second));
            goOn();
        }

        private static int calculate(int operation, int first, int second) {
            switch (operation) {
                case Op.ADD:
                    return first + second;
                case Op.SUBTRACT:
                    return first - second;
                case Op.MULTIPLY:
                    return first * second;
                case Op.DIVIDE:
                    return second == 0 ? 0 : first / second;
                case Op.REMAINDER:
                    return second == 0 ? 0 : first % second;
                case Op.SHIFT_LEFT:
                    return first << second;
                case Op.SHIFT_RIGHT:
                    return first >> second;
                case Op.SHIFT_RIGHT_ZEROS:
                    return first >>> second;
                case Op.AND:
                    return first & second;
                case Op.OR:
                    return first | second;
                default:
                    return first ^ second;
            }
        }

        private boolean isTaken(int operation) {
            if (operation == Op.JUMP) {
                return true;
            }
            int top = pop();
            if (operation == Op.IF_NULL) {
                return top == NULL_SHOWN;
            }
            if (operation == Op.IF_NOT_NULL) {
                return top != NULL_SHOWN;
            }
            if (operation >= Op.IF_REFS) {
                return isSo(operation - Op.IF_REFS, pop(), top);
            }
            if (operation >= Op.IF_INTS) {
                return isSo(operation - Op.IF_INTS, pop(), top);
            }
            return isSo(operation - Op.IF_TO_ZERO, top, 0);
        }

        /** The relations are numbered as in each row of jumps; that of the REFs has only the first two. */
        private static boolean isSo(int relation, int first, int second) {
            switch (relation) {
                case 0:
                    return first == second;
                case 1:
                    return first != second;
                case 2:
                    return first < second;
                case 3:
                    return first >= second;
                case 4:
                    return first > second;
                default:
                    return first <= second;
            }
        }

        private void stepArrayLoad() {
            int index = pop();
            int array = pop();
            int wrong = whatIsWrong(array, index);
            if (wrong != NONE) {
                trap(wrong);
                return;
            }
            push(heapCells[array + 1 + index]);
            goOn();
        }

        private void stepArrayStore() {
            int v = pop();
            int index = pop();
            int array = pop();
            int wrong = whatIsWrong(array, index);
            if (wrong != NONE) {
                trap(wrong);
                return;
            }
            heapCells[array + 1 + index] = v;
            goOn();
        }

        private int whatIsWrong(int array, int index) {
            if (array == NULL_SHOWN) {
                return WAS_NULL;
            }
            return index < 0 || index >= heapCells[array] ? NO_INDEX : NONE;
        }

        private void stepNewArray(int length) {
            if (length < 0) {
                trap(NEGATIVE_SIZE);
                return;
            }
            // Not length + 1 > ..: the longest length would wrap.
            if (length >= HEAP_CELLS - heapTaken) {
                end(NO_ROOM_FOR_ARRAY);
                return;
            }
            int array = heapTaken;
            heapCells[array] = length;
            for (int i = 0; i < length; i++) {
                heapCells[array + 1 + i] = 0;
            }
            heapTaken = array + 1 + length;
            push(array);
            goOn();
        }

        private void stepLength(int array) {
            if (array == NULL_SHOWN) {
                trap(WAS_NULL);
                return;
            }
            push(heapCells[array]);
            goOn();
        }

        private void stepCall(Method called) {
            if (cellsTaken() + called.cellsNeeded() > CELLS) {
                end(NO_ROOM_FOR_FRAME);
                return;
            }
            latest.high -= called.arguments;
            int firstArgument = latest.firstStackCell() + latest.high;
            openFrame(called);
            for (int n = 0; n < called.arguments; n++) {
                cells[latest.firstCell + n] = cells[firstArgument + n];
            }
        }

        private void leave(int given) {
            boolean givesInt = latest.body.givesInt;
            closeFrame();
            if (frameCount == 0) {
                end(DONE);
                outcome = given;
                return;
            }
            if (givesInt) {
                push(given);
            }
            // A frame that called stays at the place of its call till then.
            latest.place += Op.sizeOf(Op.CALL);
        }

        private void trap(int kind) {
            for (int k = frameCount; k > 0; k--) {
                int target = latest.body.findTarget(latest.place, kind);
                if (target != NONE) {
                    latest.place = target;
                    latest.high = 0;
                    push(kind);
                    return;
                }
                closeFrame();
            }
            end(kind + STATE_LESS_KIND);
        }
    }
}
