/** Promises 5, 6 and 19: verify, fault and type, by shape and flow. */
public final class VerifyTest {
    public static void main(String[] args) {
        verifyTwice();
        faults();
        shapeOfOperations();
        shapeOfOperands();
        shapeOfJumps();
        shapeOfHandlers();
        flowOfTypes();
        flowOfHeight();
        flowOfEnds();
        flowOfJoins();
        flowOfCalls();
        flowOfHandlers();
        types();
        Check.end("VerifyTest");
    }

    private static void right(String what, int count, FrameWalk x) {
        Check.due(what + ": verify", count, () -> x.verify());
        Check.due(what + ": fault", -1, x.fault());
    }

    private static void noShape(String what, FrameWalk x) {
        refused(what, 0, x);
    }

    private static void noFlow(String what, FrameWalk x) {
        refused(what, 1, x);
    }

    private static void refused(String what, int fault, FrameWalk x) {
        Check.due(what + ": verify", Check.ARGUMENT, () -> x.verify());
        Check.due(what + ": fault", fault, x.fault());
        Check.due(what + ": type", -1, x.type(0, 0, 0));
        int m = fault / 2;
        Check.due(what + ": again", Check.ARGUMENT, () -> x.verify());
        Check.due(what + ": fault again", fault, x.fault());
        Check.due(what + ": still not started", true,
                Check.answer(() -> x.start(m)).startsWith("throws."));
    }

    private static void verifyTwice() {
        FrameWalk x = Check.fed(177);
        Check.due("bytes alone", Check.STATE, () -> x.verify());
        x.method(1, 0, 0, 0, false);
        Check.due("not verified", Check.STATE, () -> x.start(0));
        Check.due("type before verify", -1, x.type(0, 0, 0));
        right("a method", 1, x);
        Check.due("verified already", Check.STATE, () -> x.verify());
        Check.due("and still verified", true, () -> x.start(0));
    }

    private static void faults() {
        FrameWalk x = Check.fed(177, 177, 87, 177, 0);
        x.method(1, 0, 0, 0, false);
        x.method(1, 0, 0, 0, false);
        x.method(2, 0, 0, 1, false);
        x.method(1, 0, 0, 0, false);
        Check.due("the third has no flow, the fourth no shape", Check.ARGUMENT, () -> x.verify());
        Check.due("the third is told", 5, x.fault());
        x.feed(0);
        Check.due("it stays", 5, x.fault());

        FrameWalk y = Check.fed(177, 255, 87, 177);
        y.method(1, 0, 0, 0, false);
        y.method(1, 0, 0, 0, false);
        y.method(2, 0, 0, 1, false);
        Check.due("the second has no shape, the third no flow", Check.ARGUMENT, () -> y.verify());
        Check.due("the second is told", 2, y.fault());

        FrameWalk mended = Check.one(0, 0, 0, false, 184, 0, 1, 177);
        Check.due("a method that is not there", Check.ARGUMENT, () -> mended.verify());
        Check.due("its fault", 0, mended.fault());
        mended.feed(177);
        mended.method(1, 0, 0, 0, false);
        Check.due("and then is", 3, () -> mended.verify());
        Check.due("no fault any more", -1, mended.fault());
        Check.due("verified already", Check.STATE, () -> mended.verify());
        Check.due("that leaves it", -1, mended.fault());

        FrameWalk worse = Check.one(0, 0, 1, false, 87, 177);
        Check.due("no flow", Check.ARGUMENT, () -> worse.verify());
        Check.due("fault 1", 1, worse.fault());
        worse.handler(0, 0, 0, 0);
        Check.due("then no shape", Check.ARGUMENT, () -> worse.verify());
        Check.due("fault 0", 0, worse.fault());
    }

    /** The sizes of all operations, as the document has them; 0 for what is none. */
    private static int size(int operation) {
        int o = operation;
        if (o == 16 || o == 21 || o == 25 || o == 54 || o == 58 || o == 188) {
            return 2;
        }
        if (o == 17 || o == 132 || o >= 153 && o <= 167 || o == 178 || o == 179 || o == 184 || o == 198 || o == 199) {
            return 3;
        }
        boolean isOne = o >= 1 && o <= 8 || o >= 26 && o <= 29 || o >= 42 && o <= 46 || o >= 59 && o <= 62
                || o >= 75 && o <= 79 || o == 87 || o == 89 || o == 95 || o == 172 || o == 177 || o == 190
                || o >= 96 && o <= 120 && o % 4 == 0 || o >= 120 && o <= 130 && o % 2 == 0;
        return isOne ? 1 : 0;
    }

    private static void shapeOfOperations() {
        for (int o = 0; o < 256; o++) {
            int size = size(o);
            // Behind 177 nothing has a state: only the shape is looked at.
            for (int length = 2; length <= 5; length++) {
                int[] bytes = new int[length];
                bytes[0] = 177;
                bytes[1] = o;
                if (o == 188 && length > 2) {
                    bytes[2] = 10;
                }
                for (int i = 1 + Math.max(1, size); i < length; i++) {
                    bytes[i] = 177;
                }
                FrameWalk x = Check.one(0, 8, 0, false, bytes);
                String what = "operation " + o + " in " + length + " bytes";
                if (size == 0 || 1 + size > length) {
                    noShape(what, x);
                } else {
                    right(what, 1, x);
                }
            }
        }
        FrameWalk cut = Check.fed(177, 16, 177);
        cut.method(2, 0, 0, 1, false);
        noShape("an operand that lies behind the method", cut);
    }

    private static void shapeOfOperands() {
        int[] longForms = {21, 25, 54, 58};
        int[] shortForms = {26, 42, 59, 75};
        for (int locals = 0; locals <= 8; locals++) {
            for (int o : longForms) {
                operand("operation " + o + " of " + locals + " locals, last", locals > 0, locals, o, locals - 1);
                operand("operation " + o + " of " + locals + " locals, next", false, locals, o, locals);
                operand("operation " + o + " of " + locals + " locals, 255", false, locals, o, 255);
            }
            operand("132 of " + locals + " locals, last", locals > 0, locals, 132, locals - 1, 200);
            operand("132 of " + locals + " locals, next", false, locals, 132, locals, 0);
            for (int o : shortForms) {
                for (int n = 0; n < 4; n++) {
                    operand("operation " + (o + n) + " of " + locals + " locals", n < locals, locals, o + n);
                }
            }
        }
        for (int o = 178; o <= 179; o++) {
            operand("static 0", true, 0, o, 0, 0);
            operand("static 7", true, 0, o, 0, 7);
            operand("static 8", false, 0, o, 0, 8);
            operand("static 256", false, 0, o, 1, 0);
            operand("static -1", false, 0, o, 255, 255);
        }
        operand("method 0", true, 0, 184, 0, 0);
        operand("method 1", false, 0, 184, 0, 1);
        operand("method -1", false, 0, 184, 255, 255);
        operand("method 256", false, 0, 184, 1, 0);
        for (int n = 0; n < 256; n++) {
            operand("188 with " + n, n == 10, 0, 188, n);
        }
        FrameWalk later = Check.fed(184, 0, 1, 177, 177);
        later.method(4, 0, 0, 0, false);
        later.method(1, 0, 0, 0, false);
        right("a method that comes later", 3, later);
    }

    private static void operand(String what, boolean isRight, int locals, int... instruction) {
        int[] bytes = new int[instruction.length + 1];
        bytes[0] = 177;
        System.arraycopy(instruction, 0, bytes, 1, instruction.length);
        FrameWalk x = Check.one(0, locals, 0, false, bytes);
        if (isRight) {
            right(what, 1, x);
        } else {
            noShape(what, x);
        }
    }

    private static void shapeOfJumps() {
        int[] jumps = {153, 154, 155, 156, 157, 158, 159, 160, 161, 162, 163, 164, 165, 166, 167, 198, 199};
        for (int o : jumps) {
            // Places: 0 177, 1 the jump, 4 16 b, 6 177.
            for (int place = -2; place <= 9; place++) {
                int w = place - 1;
                FrameWalk x = Check.fed(177, o, w >> 8, w, 16, 9, 177, 177, 177);
                x.method(7, 0, 0, 0, false);
                x.method(2, 0, 0, 0, false);
                boolean isRight = place == 0 || place == 1 || place == 4 || place == 6;
                String what = "jump " + o + " to place " + place;
                if (isRight) {
                    right(what, 2, x);
                } else {
                    noShape(what, x);
                }
            }
        }
        FrameWalk second = Check.fed(177, 177, 167, 255, 255);
        second.method(1, 0, 0, 0, false);
        second.method(4, 0, 0, 0, false);
        right("places are counted from the method's first byte", 2, second);
        FrameWalk before = Check.fed(177, 167, 255, 255);
        before.method(1, 0, 0, 0, false);
        before.method(3, 0, 0, 0, false);
        refused("a jump into the method before", 2, before);
        int[] full = new int[200];
        java.util.Arrays.fill(full, 177);
        full[0] = 167;
        full[1] = 0;
        full[2] = 199;
        right("to the last of 200 bytes", 2, Check.one(0, 0, 0, false, full));
        full[2] = 200;
        noShape("behind the last of 200 bytes", Check.one(0, 0, 0, false, full));
        FrameWalk again = Check.one(0, 0, 0, false, 177, 177, 177, 177, 177);
        again.verify();
        again.clear();
        Check.feed(again, 177, 167, 0, 3);
        again.method(4, 0, 0, 0, false);
        noShape("to where an instruction was before clear", again);
        noShape("a far jump", Check.one(0, 0, 0, false, 167, 127, 255, 177));
        noShape("a far jump back", Check.one(0, 0, 0, false, 167, 128, 0, 177));
    }

    private static void shapeOfHandlers() {
        // Places: 0 177, 1 16 9, 3 87, 4 177; the end is 5.
        int[][] wrong = {
            {-1, 1, 3, 0}, {0, 0, 3, 0}, {1, 0, 3, 0}, {0, 6, 3, 0}, {2, 3, 3, 0}, {0, 2, 3, 0}, {5, 5, 3, 0},
            {5, 6, 3, 0}, {0, 1, 2, 0}, {0, 1, -1, 0}, {0, 1, 5, 0}, {0, 1, 3, -1}, {0, 1, 3, 5},
            {Integer.MIN_VALUE, 1, 3, 0}, {0, Integer.MAX_VALUE, 3, 0}, {0, 1, Integer.MAX_VALUE, 0},
            {0, 1, Integer.MIN_VALUE, 0}, {0, 1, 3, Integer.MAX_VALUE}, {0, 1, 3, Integer.MIN_VALUE},
            {0, -1, 3, 0}, {3, 1, 3, 0},
        };
        for (int[] h : wrong) {
            FrameWalk x = Check.one(0, 0, 1, false, 177, 16, 9, 87, 177);
            x.handler(1, 5, 3, 0);
            x.handler(h[0], h[1], h[2], h[3]);
            noShape("handler " + java.util.Arrays.toString(h), x);
        }
        int[][] rightOnes = {{1, 3, 3, 0}, {1, 5, 0, 1}, {3, 4, 4, 2}, {4, 5, 1, 3}, {1, 4, 3, 4}};
        for (int[] h : rightOnes) {
            FrameWalk x = Check.one(0, 0, 0, false, 177, 16, 9, 87, 177);
            x.handler(h[0], h[1], h[2], h[3]);
            right("handler " + java.util.Arrays.toString(h), 1, x);
        }
        FrameWalk many = Check.one(0, 0, 0, false, 177, 177);
        many.handler(1, 2, 1, 0);
        many.handler(1, 2, 1, 0);
        many.handler(1, 2, 1, 0);
        many.handler(1, 2, 1, 5);
        noShape("the fourth handler is looked at too", many);
    }

    /** What each operation takes, the top last, and leaves; locals 0: INT, 1: REF, 2: NONE. */
    private static final String[][] EFFECTS = {
        {"", "R", "1"}, {"", "I", "2"}, {"", "I", "8"}, {"", "I", "16 128"}, {"", "I", "17 1 2"},
        {"", "I", "21 0"}, {"", "I", "26"}, {"", "R", "25 1"}, {"", "R", "43"},
        {"I", "", "54 2"}, {"I", "", "61"}, {"R", "", "58 2"}, {"R", "", "77"}, {"I", "", "60"}, {"R", "", "75"},
        {"RI", "I", "46"}, {"RII", "", "79"},
        {"I", "", "87"}, {"R", "", "87"}, {"I", "II", "89"}, {"R", "RR", "89"},
        {"II", "II", "95"}, {"RI", "IR", "95"}, {"IR", "RI", "95"}, {"RR", "RR", "95"},
        {"II", "I", "96"}, {"II", "I", "100"}, {"II", "I", "104"}, {"II", "I", "108"}, {"II", "I", "112"},
        {"II", "I", "120"}, {"II", "I", "122"}, {"II", "I", "124"}, {"II", "I", "126"}, {"II", "I", "128"},
        {"II", "I", "130"}, {"I", "I", "116"}, {"", "", "132 0 255"},
        {"I", "", "153 0 3"}, {"I", "", "154 0 3"}, {"I", "", "155 0 3"}, {"I", "", "156 0 3"}, {"I", "", "157 0 3"},
        {"I", "", "158 0 3"}, {"II", "", "159 0 3"}, {"II", "", "160 0 3"}, {"II", "", "161 0 3"},
        {"II", "", "162 0 3"}, {"II", "", "163 0 3"}, {"II", "", "164 0 3"}, {"RR", "", "165 0 3"},
        {"RR", "", "166 0 3"}, {"", "", "167 0 3"}, {"R", "", "198 0 3"}, {"R", "", "199 0 3"},
        {"", "I", "178 0 7"}, {"I", "", "179 0 7"}, {"I", "R", "188 10"}, {"R", "I", "190"},
    };

    private static final String[] STACKS = {
        "", "I", "R", "II", "IR", "RI", "RR", "III", "IIR", "IRI", "IRR", "RII", "RIR", "RRI", "RRR",
    };

    private static boolean accepts(String operation, String stack) {
        for (String[] effect : EFFECTS) {
            if (effect[2].equals(operation) && stack.endsWith(effect[0])) {
                return true;
            }
        }
        return false;
    }

    private static void flowOfTypes() {
        for (String[] effect : EFFECTS) {
            for (String stack : STACKS) {
                String what = "operation " + effect[2] + " on " + stack;
                FrameWalk x = onStack(stack, effect[2]);
                if (stack.endsWith(effect[0])) {
                    String left = stack.substring(0, stack.length() - effect[0].length()) + effect[1];
                    Check.due(what, 4 + stack.length(), () -> x.verify());
                    int place = 2 + stack.length() + effect[2].split(" ").length;
                    for (int k = 0; k < left.length(); k++) {
                        Check.due(what + " leaves " + left + " at " + k, left.charAt(k) == 'I' ? 1 : 2,
                                x.type(0, place, 3 + k));
                    }
                    Check.due(what + " leaves no more", -1, x.type(0, place, 3 + left.length()));
                } else if (!accepts(effect[2], stack)) {
                    noFlow(what, x);
                }
            }
        }
        String[] badLocals = {"21 1", "21 2", "27", "28", "25 0", "25 2", "42", "44", "132 1 0", "132 2 0"};
        for (String o : badLocals) {
            noFlow("a local of another type: " + o, onStack("", o));
        }
        storedTypes();
    }

    /** 1, 76 make local 1 a REF; then the stack, the operation, and a jump to itself. */
    private static FrameWalk onStack(String stack, String operation) {
        FrameWalk x = Check.fed(1, 76);
        for (char c : stack.toCharArray()) {
            x.feed(c == 'I' ? 3 : 1);
        }
        String[] told = operation.split(" ");
        for (String b : told) {
            x.feed(Integer.parseInt(b));
        }
        Check.feed(x, 167, 0, 0);
        x.method(2 + stack.length() + told.length + 3, 1, 3, 8, false);
        return x;
    }

    private static void storedTypes() {
        String[] stores = {"54 2", "61", "54 1", "60", "58 2", "77", "58 0", "75"};
        int[] stored = {2, 2, 1, 1, 2, 2, 0, 0};
        for (int i = 0; i < stores.length; i++) {
            boolean isInt = i < 4;
            FrameWalk x = onStack(isInt ? "I" : "R", stores[i]);
            Check.due("store " + stores[i], 5, () -> x.verify());
            int place = 3 + stores[i].split(" ").length;
            int[] types = {1, 2, 0};
            types[stored[i]] = isInt ? 1 : 2;
            for (int k = 0; k < 3; k++) {
                Check.due("store " + stores[i] + ": local " + k, types[k], x.type(0, place, k));
            }
        }
    }

    private static void flowOfHeight() {
        for (int height = 0; height <= 8; height++) {
            for (int pushes = 0; pushes <= 9; pushes++) {
                int[] bytes = new int[pushes + 3];
                java.util.Arrays.fill(bytes, 0, pushes, 3);
                bytes[pushes] = 167;
                FrameWalk x = Check.one(0, 0, height, false, bytes);
                String what = pushes + " pushes, HEIGHT " + height;
                if (pushes <= height) {
                    right(what, pushes + 1, x);
                } else {
                    noFlow(what, x);
                }
            }
        }
        noFlow("dup at the top", Check.one(0, 0, 1, false, 3, 89, 87, 87, 177));
        right("swap at the top", 4, Check.one(0, 0, 2, false, 3, 4, 95, 177));
        right("an array at the top", 3, Check.one(0, 0, 1, false, 3, 188, 10, 177));
        FrameWalk full = Check.one(0, 0, 8, false, 3, 3, 3, 3, 3, 3, 3, 89, 87, 177);
        right("dup to 8", 10, full);
        noFlow("dup to 9", Check.one(0, 0, 8, false, 3, 3, 3, 3, 3, 3, 3, 3, 89, 87, 177));
    }

    private static void flowOfEnds() {
        right("gives an int", 2, Check.one(0, 0, 1, true, 3, 172));
        right("gives nothing", 1, Check.one(0, 0, 0, false, 177));
        right("ends with more on the stack", 4, Check.one(0, 0, 3, true, 3, 1, 3, 172));
        right("ends with something on the stack", 2, Check.one(0, 0, 1, false, 1, 177));
        noFlow("172 in one that gives nothing", Check.one(0, 0, 1, false, 3, 172));
        noFlow("177 in one that gives an int", Check.one(0, 0, 1, true, 177));
        noFlow("172 with a REF", Check.one(0, 0, 1, true, 1, 172));
        noFlow("172 with nothing", Check.one(0, 0, 1, true, 172));
        right("177 without a state", 2, Check.one(0, 0, 1, true, 3, 172, 177));
        right("172 without a state", 1, Check.one(0, 0, 0, false, 177, 172));
        noFlow("behind the last instruction", Check.one(0, 0, 1, false, 3));
        noFlow("behind the last, by a jump that may not be taken", Check.one(0, 0, 1, false, 3, 153, 255, 255));
        right("behind the last, without a state", 1, Check.one(0, 0, 1, false, 177, 3));
        right("a jump at the end", 1, Check.one(0, 0, 0, false, 167, 0, 0));
        right("167 does not come to the next", 2, Check.one(0, 0, 0, false, 167, 0, 4, 87, 177));
        noFlow("others do", Check.one(1, 1, 1, false, 26, 153, 0, 4, 87, 177));
        FrameWalk next = Check.fed(3, 87, 177);
        next.method(2, 0, 0, 1, false);
        next.method(1, 0, 0, 0, false);
        noFlow("into the next method", next);
    }

    private static void flowOfJoins() {
        // 0 26; 1 153 to 8; 4 push; 5 167 to 9; 8 push; 9 87; 10 177.
        right("both INT", 7, Check.one(1, 1, 1, false, 26, 153, 0, 7, 3, 167, 0, 4, 4, 87, 177));
        right("both REF", 7, Check.one(1, 1, 1, false, 26, 153, 0, 7, 1, 167, 0, 4, 1, 87, 177));
        noFlow("INT and REF", Check.one(1, 1, 1, false, 26, 153, 0, 7, 3, 167, 0, 4, 1, 87, 177));
        noFlow("REF and INT", Check.one(1, 1, 1, false, 26, 153, 0, 7, 1, 167, 0, 4, 3, 87, 177));
        noFlow("heights 0 and 1", Check.one(1, 1, 1, false, 26, 153, 0, 7, 3, 167, 0, 3, 177));
        noFlow("a loop that grows", Check.one(0, 0, 8, false, 3, 167, 255, 255));
        noFlow("a loop that comes to place 0 with one", Check.one(0, 0, 8, false, 3, 153, 0, 3, 3, 167, 255, 251));

        // 0 26; 1 153 to 9; 4 3; 5 60; 6 167 to 11; 9 1; 10 76; 11 end.
        FrameWalk locals = Check.one(1, 2, 1, false, 26, 153, 0, 8, 3, 60, 167, 0, 5, 1, 76, 177);
        right("a local with different types", 8, locals);
        Check.due("it is NONE", 0, locals.type(0, 11, 1));
        Check.due("the other one is INT", 1, locals.type(0, 11, 0));
        noFlow("it can't be read as INT",
                Check.one(1, 2, 1, false, 26, 153, 0, 8, 3, 60, 167, 0, 5, 1, 76, 27, 87, 177));
        noFlow("nor as REF",
                Check.one(1, 2, 1, false, 26, 153, 0, 8, 3, 60, 167, 0, 5, 1, 76, 43, 87, 177));

        // A loop whose end turns local 0 into a REF: place 0 is found again with it as NONE.
        FrameWalk loop = Check.one(1, 1, 1, false, 178, 0, 0, 153, 0, 8, 1, 75, 167, 255, 248, 177);
        right("a loop that changes a local", 6, loop);
        Check.due("at place 0", 0, loop.type(0, 0, 0));
        Check.due("at place 8", 2, loop.type(0, 8, 0));
        Check.due("at place 11", 0, loop.type(0, 11, 0));
        noFlow("a loop that changes a local that it reads",
                Check.one(1, 1, 1, false, 26, 153, 0, 8, 1, 75, 167, 255, 250, 177));
    }

    private static void flowOfCalls() {
        calls("two ints", true, 2, true, 3, 4, 184, 0, 1, 172);
        calls("one too few", false, 2, true, 3, 184, 0, 1, 172);
        calls("a REF as the last", false, 2, true, 3, 1, 184, 0, 1, 172);
        calls("a REF as the first", false, 2, true, 1, 3, 184, 0, 1, 172);
        calls("what lies below stays", true, 1, true, 1, 3, 184, 0, 1, 172);
        calls("one that gives nothing", false, 1, false, 3, 184, 0, 1, 172);
        calls("one that gives nothing, and an int below", true, 1, false, 3, 3, 184, 0, 1, 172);
        calls("one that gives an int without arguments", true, 0, true, 184, 0, 1, 172);
        FrameWalk x = Check.fed(3, 184, 0, 1, 172, 3, 172);
        x.method(5, 0, 0, 1, true);
        x.method(2, 0, 0, 1, true);
        noFlow("a call that leaves more than HEIGHT", x);
    }

    private static void calls(String what, boolean isRight, int arguments, boolean givesInt, int... bytes) {
        FrameWalk x = Check.fed(bytes);
        Check.feed(x, 167, 0, 0);
        x.method(bytes.length, 0, 0, 3, true);
        x.method(3, arguments, arguments, 0, givesInt);
        Check.due(what, isRight ? bytes.length - 1 : Check.ARGUMENT, () -> x.verify());
        Check.due(what + ": fault", isRight ? -1 : 1, x.fault());
    }

    private static FrameWalk with(FrameWalk x, int from, int to, int target, int kind) {
        x.handler(from, to, target, kind);
        return x;
    }

    private static void flowOfHandlers() {
        right("one INT comes", 4, with(Check.one(0, 0, 1, false, 3, 167, 0, 3, 87, 177), 0, 1, 4, 0));
        noFlow("HEIGHT must be 1", with(Check.one(0, 0, 0, false, 177, 177), 0, 1, 1, 0));
        right("but not without a state", 1, with(Check.one(0, 0, 0, false, 177, 177), 1, 2, 1, 0));
        noFlow("place 0 as the target", with(Check.one(0, 0, 1, false, 177), 0, 1, 0, 0));
        noFlow("a target that is also come to with an empty stack",
                with(Check.one(0, 0, 1, false, 3, 87, 177), 0, 1, 2, 0));
        noFlow("a target that is also come to with a REF",
                with(Check.one(0, 0, 1, false, 1, 87, 177), 0, 1, 1, 0));
        right("a target that is also come to with an INT",
                3, with(Check.one(0, 0, 1, false, 3, 87, 177), 0, 1, 1, 0));
        FrameWalk empty = with(Check.one(0, 0, 2, true, 3, 1, 167, 0, 0, 172), 2, 5, 5, 0);
        right("whatever lies on the stack", 4, empty);
        Check.due("of which nothing comes", -1, empty.type(0, 5, 1));
        right("to is not covered", 5, with(Check.one(0, 1, 1, false, 3, 59, 26, 87, 177), 4, 5, 3, 0));
        right("what 172 covers", 2, with(Check.one(0, 0, 1, true, 3, 172), 1, 2, 1, 0));
        right("what 177 covers comes too", 3, with(Check.one(0, 0, 1, false, 177, 87, 177), 0, 1, 1, 0));

        // 0 3; 1 59; 2 167 to 5; 5 the target.
        FrameWalk before = with(Check.one(0, 1, 1, false, 3, 59, 167, 0, 0, 87, 177), 1, 2, 5, 0);
        right("the locals from before", 5, before);
        Check.due("so what is set there is NONE", 0, before.type(0, 5, 0));
        FrameWalk behind = with(Check.one(0, 1, 1, false, 3, 59, 167, 0, 0, 87, 177), 2, 5, 5, 0);
        right("behind it", 5, behind);
        Check.due("it is INT", 1, behind.type(0, 5, 0));
        FrameWalk left = with(Check.one(1, 1, 1, false, 1, 75, 167, 0, 0, 87, 177), 1, 2, 5, 0);
        right("the locals that it leaves", 5, left);
        Check.due("so INT and REF are NONE", 0, left.type(0, 5, 0));
        FrameWalk first = with(Check.one(1, 1, 1, false, 1, 75, 167, 0, 0, 87, 177), 0, 1, 5, 0);
        right("only the first is covered", 5, first);
        Check.due("so it is still INT", 1, first.type(0, 5, 0));
        noFlow("locals that come to the target are not read if they are NONE",
                with(Check.one(1, 1, 1, true, 1, 75, 167, 0, 0, 87, 26, 172), 1, 2, 5, 0));
        noFlow("the target's own flow", with(Check.one(0, 0, 1, false, 167, 0, 0, 190, 177), 0, 3, 3, 2));
        FrameWalk second = Check.one(0, 0, 1, false, 167, 0, 0, 87, 177, 190, 177);
        second.handler(0, 3, 3, 1);
        second.handler(0, 3, 5, 1);
        noFlow("a handler that is never reached counts", second);
    }

    private static void types() {
        FrameWalk x = Check.fed(177, 1, 78, 4, 1, 167, 0, 3, 177, 177);
        x.method(1, 0, 0, 0, false);
        x.method(9, 2, 5, 4, false);
        Check.due("type before verify", -1, x.type(1, 0, 0));
        Check.due("verify", 7, () -> x.verify());
        int[][] rows = {
            {0, 1, 1, 0, 0, 0}, {1, 1, 1, 0, 0, 0, 2}, {2, 1, 1, 0, 2, 0}, {3, 1, 1, 0, 2, 0, 1},
            {4, 1, 1, 0, 2, 0, 1, 2}, {7, 1, 1, 0, 2, 0, 1, 2}, {5}, {6}, {8}, {9}, {-1},
            {Integer.MAX_VALUE}, {Integer.MIN_VALUE},
        };
        for (int[] row : rows) {
            for (int k = -1; k < 12; k++) {
                boolean isThere = k >= 0 && k + 1 < row.length;
                Check.due("type(1, " + row[0] + ", " + k + ")", isThere ? row[k + 1] : -1, x.type(1, row[0], k));
            }
            Check.due("a far k", -1, x.type(1, row[0], Integer.MAX_VALUE));
            Check.due("a far k below", -1, x.type(1, row[0], Integer.MIN_VALUE));
        }
        Check.due("no locals, no stack", -1, x.type(0, 0, 0));
        Check.due("method 2", -1, x.type(2, 0, 0));
        Check.due("method -1", -1, x.type(-1, 0, 0));
        Check.due("method 8", -1, x.type(8, 0, 0));
        Check.start(x, 1, 5, 6);
        Check.finish(x);
        Check.due("it stays when it has run", 2, x.type(1, 7, 6));
    }
}
