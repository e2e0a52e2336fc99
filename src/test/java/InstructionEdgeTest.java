import java.util.Arrays;

/** The INSTRUCTIONS of "Terms": their operands, forms and ints, each at its limits. */
public final class InstructionEdgeTest {
    private static final int MIN = Integer.MIN_VALUE;
    private static final int MAX = Integer.MAX_VALUE;
    private static final int[] JUMPS = {
        153, 154, 155, 156, 157, 158, 159, 160, 161, 162, 163, 164, 165, 166, 167, 198, 199,
    };

    public static void main(String[] args) {
        Check.sentence("n is a byte 0 .. 255", InstructionEdgeTest::unsignedBytes);
        Check.sentence("b one of -128 .. 127", InstructionEdgeTest::signedBytes);
        Check.sentence("w two bytes, -32768 .. 32767, the higher one first", InstructionEdgeTest::words);
        Check.sentence("a and b (on top) are taken off the stack", InstructionEdgeTest::order);
        Check.sentence("96 +, 100 -, 104 *, 108 /, 112 %, .. 126 and, 128 or, 130 xor [I I > I]. 116 - [I > I]",
                InstructionEdgeTest::calculations);
        Check.sentence("1 NULL [> R]. 2 .. 8: -1 .. 5 [> I]", InstructionEdgeTest::smallPushes);
        Check.sentence("(n 0 .. 3 in the short ones.) 21 n, or 26 + n; 54 n, or 59 + n",
                InstructionEdgeTest::shortInts);
        Check.sentence("(n 0 .. 3 in the short ones.) 25 n, or 42 + n; 58 n, or 75 + n",
                InstructionEdgeTest::shortRefs);
        Check.sentence("46 ALOAD [R I > I]. 79 ASTORE [R I I >]", InstructionEdgeTest::arrayCells);
        Check.sentence("87 POP [any >]. 89 DUP [any > it, it]. 95 SWAP", InstructionEdgeTest::moves);
        Check.sentence("132 n b: int local n grows by b", InstructionEdgeTest::grows);
        Check.sentence("153 .. 158 w: jump if it is = , != , < , >= , > , <= 0", InstructionEdgeTest::toZero);
        Check.sentence("159 .. 164 w: if the first is so to the second", InstructionEdgeTest::ofTwo);
        Check.sentence("165, 166 w: if they are the same array, or both null; if not", InstructionEdgeTest::sameArrays);
        Check.sentence("198, 199 w: jump if it is null, if not", InstructionEdgeTest::nulls);
        Check.sentence("172 gives [I >], 177 gives nothing: the method ends", InstructionEdgeTest::gives);
        Check.sentence("178 w: static w [> I]. 179 w [I >]", InstructionEdgeTest::statics);
        Check.sentence("184 w: method w is called [as many I as its arguments, the last on top > I, "
                + "if it gives an int]", InstructionEdgeTest::calls);
        Check.sentence("188 n: a new array of zeros, n must be 10", InstructionEdgeTest::newArrays);
        Check.sentence("190 its length", InstructionEdgeTest::lengths);
        Check.sentence("Others are no operations", InstructionEdgeTest::others);
        Check.sentence("Ints wrap", InstructionEdgeTest::intsWrap);
        Check.sentence("shifts by the lowest five bits", InstructionEdgeTest::shifts);
        Check.sentence("A jump goes to the place of its operation and w", InstructionEdgeTest::jumps);
        Check.end("InstructionEdgeTest");
    }

    private static final String NO_SHAPE = "no shape in 0";

    /** The instruction stands behind 177: it has no state, so that only its shape counts. */
    private static String shapeOf(int locals, int... instruction) {
        FrameWalk x = Check.fed(177);
        Check.feed(x, instruction);
        x.method(1 + instruction.length, 0, locals, 0, false);
        return Check.verdict(x);
    }

    private static String gives(int arguments, int[] code, int... given) {
        FrameWalk x = Check.verified(Check.one(arguments, arguments, 4, true, code));
        return Check.outcome(x, given);
    }

    private static int[] code(int... bytes) {
        return bytes;
    }

    private static void unsignedBytes() {
        for (int o : new int[] {21, 25, 54, 58}) {
            Check.due(o + " of local 0", "1", shapeOf(8, o, 0));
            Check.due(o + " of local 7", "1", shapeOf(8, o, 7));
            for (int n : new int[] {8, 127, 128, 249, 255}) {
                Check.due(o + " of local " + n, NO_SHAPE, shapeOf(8, o, n));
            }
        }
        Check.due("132 of local 7", "1", shapeOf(8, 132, 7, 0));
        for (int n : new int[] {8, 127, 128, 249, 255}) {
            Check.due("132 of local " + n, NO_SHAPE, shapeOf(8, 132, n, 0));
        }
    }

    private static void signedBytes() {
        int[][] values = {{0, 0}, {1, 1}, {126, 126}, {127, 127}, {128, -128}, {129, -127}, {254, -2}, {255, -1}};
        for (int[] v : values) {
            Check.due("16 " + v[0], "gives " + v[1], gives(0, code(16, v[0], 172)));
            Check.due("132 by " + v[0], "gives " + (1000 + v[1]), gives(1, code(132, 0, v[0], 26, 172), 1000));
        }
    }

    private static void words() {
        int[][] values = {
            {0, 0, 0}, {0, 1, 1}, {0, 127, 127}, {0, 128, 128}, {0, 255, 255}, {1, 0, 256}, {127, 255, 32767},
            {128, 0, -32768}, {128, 1, -32767}, {255, 0, -256}, {255, 127, -129}, {255, 128, -128}, {255, 255, -1},
        };
        for (int[] v : values) {
            Check.due("17 " + v[0] + " " + v[1], "gives " + v[2], gives(0, code(17, v[0], v[1], 172)));
        }
        for (int o : new int[] {178, 179}) {
            Check.due(o + " of -1", NO_SHAPE, shapeOf(0, o, 255, 255));
            Check.due(o + " of 256", NO_SHAPE, shapeOf(0, o, 1, 0));
            Check.due(o + " of -32768", NO_SHAPE, shapeOf(0, o, 128, 0));
            Check.due(o + " of 32767", NO_SHAPE, shapeOf(0, o, 127, 255));
        }
        Check.due("184 of -1", NO_SHAPE, shapeOf(0, 184, 255, 255));
        Check.due("184 of 256", NO_SHAPE, shapeOf(0, 184, 1, 0));
        Check.due("184 of -32768", NO_SHAPE, shapeOf(0, 184, 128, 0));
        Check.due("184 of 32767", NO_SHAPE, shapeOf(0, 184, 127, 255));
        for (int o : JUMPS) {
            Check.due(o + " by -1", "1", shapeOf(0, o, 255, 255));
            Check.due(o + " by 255", NO_SHAPE, shapeOf(0, o, 0, 255));
            Check.due(o + " by -256", NO_SHAPE, shapeOf(0, o, 255, 0));
            Check.due(o + " by 256", NO_SHAPE, shapeOf(0, o, 1, 0));
            Check.due(o + " by -32768", NO_SHAPE, shapeOf(0, o, 128, 0));
            Check.due(o + " by 32767", NO_SHAPE, shapeOf(0, o, 127, 255));
        }
    }

    private static void order() {
        int[][] rows = {
            {100, 9, 8, 1}, {108, 7, 1, 7}, {112, 9, 7, 2}, {120, 9, 6, 576}, {122, 5, 1, 2}, {124, 5, 1, 2},
        };
        for (int[] r : rows) {
            Check.due(r[0] + " of " + r[1] + " and " + r[2], "gives " + r[3],
                    gives(2, code(26, 27, r[0], 172), r[1], r[2]));
        }
    }

    private static void calculations() {
        int[][] rows = {
            {96, 12, 10, 22}, {100, 12, 10, 2}, {104, 12, 10, 120}, {108, 12, 10, 1}, {112, 12, 10, 2},
            {126, 12, 10, 8}, {128, 12, 10, 14}, {130, 12, 10, 6}, {126, -1, MIN, MIN}, {128, MAX, MIN, -1},
            {130, -1, -1, 0}, {108, 0, -5, 0}, {112, 0, -5, 0}, {104, 0, MIN, 0}, {96, MIN, MAX, -1},
            {100, MIN, MIN, 0},
        };
        for (int[] r : rows) {
            Check.due(r[0] + " of " + r[1] + " and " + r[2], "gives " + r[3],
                    gives(2, code(26, 27, r[0], 172), r[1], r[2]));
        }
        for (int v : new int[] {-1, 0, 1}) {
            Check.due("116 of " + v, "gives " + -v, gives(1, code(26, 116, 172), v));
        }
    }

    private static void smallPushes() {
        for (int o = 2; o <= 8; o++) {
            Check.due("operation " + o, "gives " + (o - 3), gives(0, code(o, 172)));
        }
        Check.due("operation 0", NO_SHAPE, shapeOf(0, 0));
        Check.due("operation 9", NO_SHAPE, shapeOf(0, 9));
        FrameWalk x = Check.verified(Check.one(0, 0, 1, false, 1, 167, 0, 0));
        x.start(0);
        x.run(1);
        Check.due("null", -1, x.stack(0));
        Check.due("its type", 2, x.type(0, 1, 0));
    }

    private static void shortInts() {
        for (int n = 0; n <= 3; n++) {
            Check.due("26 + " + n, "gives 5", gives(4, code(8, 54, n, 26 + n, 172), 91, 92, 93, 94));
            Check.due("59 + " + n, "gives 5", gives(4, code(8, 59 + n, 21, n, 172), 91, 92, 93, 94));
            for (int o : new int[] {26, 59}) {
                Check.due(o + n + " of " + (n + 1) + " locals", "1", shapeOf(n + 1, o + n));
                Check.due(o + n + " of " + n + " locals", NO_SHAPE, shapeOf(n, o + n));
            }
        }
        Check.due("26 + 4", NO_SHAPE, shapeOf(8, 30));
        Check.due("59 + 4", NO_SHAPE, shapeOf(8, 63));
    }

    private static void shortRefs() {
        for (int n = 0; n <= 3; n++) {
            FrameWalk x = Check.one(4, 4, 1, true, 8, 188, 10, 58, n, 42 + n, 190, 172);
            x.verify();
            Check.due("42 + " + n, "gives 5", Check.outcome(x, 91, 92, 93, 94));
            FrameWalk y = Check.one(4, 4, 1, true, 8, 188, 10, 75 + n, 25, n, 190, 172);
            y.verify();
            Check.due("75 + " + n, "gives 5", Check.outcome(y, 91, 92, 93, 94));
            for (int o : new int[] {42, 75}) {
                Check.due(o + n + " of " + (n + 1) + " locals", "1", shapeOf(n + 1, o + n));
                Check.due(o + n + " of " + n + " locals", NO_SHAPE, shapeOf(n, o + n));
            }
        }
        Check.due("42 less 1", NO_SHAPE, shapeOf(8, 41));
        Check.due("75 less 1", NO_SHAPE, shapeOf(8, 74));
        Check.due("42 + 4 is another, of no local", "1", shapeOf(0, 46));
        Check.due("75 + 4 is another, of no local", "1", shapeOf(0, 79));
    }

    private static void arrayCells() {
        // An array of 3 in local 2; at the first argument the second one is set; then all are shown.
        FrameWalk x = Check.one(2, 3, 3, true, 6, 188, 10, 77, 44, 26, 27, 79, 44, 26, 46, 172);
        x.verify();
        for (int index = 0; index < 3; index++) {
            Check.due("what is read at " + index, "gives 70", Check.outcome(x, index, 70));
            for (int k = 0; k < 3; k++) {
                Check.due("set at " + index + ", seen at " + k, k == index ? 70 : 0, x.heap(1 + k));
            }
        }
    }

    private static void moves() {
        FrameWalk one = Check.verified(Check.one(1, 1, 2, false, 26, 89, 87, 87, 167, 0, 0));
        Check.start(one, 0, 77);
        int[][] stacks = {{77}, {77, 77}, {77}, {}};
        for (int[] stack : stacks) {
            one.run(1);
            Check.due("how many", stack.length, one.frame(0, 2));
            for (int k = 0; k < 2; k++) {
                Check.due("stack " + k + " of " + stack.length, k < stack.length ? 77 : 0, one.stack(k));
            }
        }
        FrameWalk two = Check.verified(Check.one(1, 1, 3, false, 3, 26, 1, 95, 167, 0, 0));
        Check.start(two, 0, 77);
        two.run(4);
        Check.due("swapped: top", 77, two.stack(0));
        Check.due("swapped: below", -1, two.stack(1));
        Check.due("what lies lower stays", 0, two.stack(2));
        Check.due("type of the lowest", 1, two.type(0, 4, 1));
        Check.due("type below", 2, two.type(0, 4, 2));
        Check.due("type of the top", 1, two.type(0, 4, 3));
    }

    private static void grows() {
        int[][] rows = {{MAX, 1, MIN}, {MAX, 0, MAX}, {MIN, 255, MAX}, {MIN, 0, MIN}, {5, 127, 132}, {5, 128, -123},
            {-1, 1, 0}, {0, 255, -1}};
        for (int[] r : rows) {
            FrameWalk x = Check.verified(Check.one(2, 2, 1, true, 132, 1, r[1], 27, 172));
            Check.due(r[0] + " by byte " + r[1], "gives " + r[2], Check.outcome(x, 3, r[0]));
        }
    }

    private static boolean isSo(int relation, int a, int b) {
        boolean[] so = {a == b, a != b, a < b, a >= b, a > b, a <= b};
        return so[relation];
    }

    private static void toZero() {
        for (int r = 0; r < 6; r++) {
            for (int v : new int[] {MIN, -1, 0, 1, MAX}) {
                Check.due(153 + r + " of " + v, "gives " + (isSo(r, v, 0) ? 1 : 0),
                        gives(1, code(26, 153 + r, 0, 5, 3, 172, 4, 172), v));
            }
        }
    }

    private static void ofTwo() {
        int[][] pairs = {{4, 5}, {5, 5}, {6, 5}, {-1, 0}, {0, -1}, {MIN, MAX}, {MAX, MIN}, {MIN, MIN}, {MAX, MAX},
            {MIN, 1}, {MAX, -1}, {0, MIN}};
        for (int r = 0; r < 6; r++) {
            for (int[] p : pairs) {
                Check.due(159 + r + " of " + p[0] + " and " + p[1], "gives " + (isSo(r, p[0], p[1]) ? 1 : 0),
                        gives(2, code(26, 27, 159 + r, 0, 5, 3, 172, 4, 172), p[0], p[1]));
            }
        }
    }

    private static void sameArrays() {
        // Locals 0 and 1: two arrays of none; 2: null; 3: the array of local 0.
        int[] which = {0, 1, 2, 0};
        for (int a = 0; a < 4; a++) {
            for (int b = 0; b < 4; b++) {
                for (int o = 165; o <= 166; o++) {
                    FrameWalk x = Check.one(0, 4, 2, true, 3, 188, 10, 89, 75, 78, 3, 188, 10, 76, 1, 77,
                            42 + a, 42 + b, o, 0, 5, 3, 172, 4, 172);
                    x.verify();
                    boolean isTaken = (which[a] == which[b]) == (o == 165);
                    Check.due(o + " of " + a + " and " + b, "gives " + (isTaken ? 1 : 0), Check.outcome(x));
                }
            }
        }
    }

    private static void nulls() {
        for (int o = 198; o <= 199; o++) {
            Check.due(o + " of null", "gives " + (199 - o), gives(0, code(1, o, 0, 5, 3, 172, 4, 172)));
            Check.due(o + " of the first array", "gives " + (o - 198),
                    gives(0, code(3, 188, 10, o, 0, 5, 3, 172, 4, 172)));
        }
    }

    private static void gives() {
        for (int v : new int[] {MIN, -1, 0, 1, MAX}) {
            Check.due("172 of " + v, "gives " + v, gives(1, code(26, 172), v));
        }
        FrameWalk x = Check.verified(Check.one(0, 0, 1, false, 8, 177, 177));
        x.start(0);
        Check.due("177 is the last step", 2, () -> x.run(100));
        Check.due("done", 2, x.state());
        Check.due("it gives nothing", 0, x.result());
    }

    private static void statics() {
        for (int w = 0; w < 8; w++) {
            FrameWalk x = Check.one(1, 1, 1, true, 26, 179, 0, w, 178, 0, w, 172);
            x.verify();
            Check.due("static " + w, "gives -9", Check.outcome(x, -9));
            for (int k = 0; k < 8; k++) {
                Check.due("static " + w + " set, " + k + " seen", k == w ? -9 : 0, x.getStatic(k));
            }
        }
    }

    private static void calls() {
        for (int arguments = 0; arguments <= 4; arguments++) {
            FrameWalk x = new FrameWalk();
            Check.feed(x, 16, 99);
            for (int v = 0; v < arguments; v++) {
                Check.feed(x, 16, 30 + v);
            }
            Check.feed(x, 184, 0, 1, 172, 8, 172);
            x.method(2 + 2 * arguments + 4, 0, 0, 5, true);
            x.method(2, arguments, 4, 1, true);
            x.verify();
            x.start(0);
            x.run(2 + arguments);
            Check.due(arguments + " arguments: left below", 1, x.frame(1, 2));
            for (int n = 0; n < 4; n++) {
                Check.due(arguments + " arguments: local " + n, n < arguments ? 30 + n : 0, x.local(n));
            }
            x.run(2);
            Check.due(arguments + " arguments: how many behind", 2, x.frame(0, 2));
            Check.due(arguments + " arguments: what it gave", 5, x.stack(0));
            Check.due(arguments + " arguments: what lay below", 99, x.stack(1));
        }
        FrameWalk nothing = Check.fed(8, 184, 0, 1, 172, 177);
        nothing.method(5, 0, 0, 1, true);
        nothing.method(1, 0, 0, 0, false);
        nothing.verify();
        Check.due("one that gives nothing", "gives 5", Check.outcome(nothing));
    }

    private static void newArrays() {
        for (int n = 0; n < 256; n++) {
            Check.due("188 " + n, n == 10 ? "1" : NO_SHAPE, shapeOf(0, 188, n));
        }
        // Twice an array of 3 in the same cells: the second time they are zeros again.
        FrameWalk x = Check.one(0, 0, 4, false, 6, 188, 10, 89, 5, 8, 79, 87, 177);
        x.verify();
        x.start(0);
        x.run(100);
        Check.due("the last int is set", 5, x.heap(3));
        x.start(0);
        x.run(2);
        for (int k = 1; k <= 3; k++) {
            Check.due("cell " + k + " of a new array", 0, x.heap(k));
        }
    }

    private static void lengths() {
        for (int length : new int[] {0, 1, 118, 119}) {
            Check.due("of " + length, "gives " + length, gives(1, code(26, 188, 10, 190, 172), length));
        }
    }

    /** The operations of the document, by their number of bytes. */
    private static final int[][] OPERATIONS = {
        {1, 2, 3, 4, 5, 6, 7, 8, 26, 27, 28, 29, 42, 43, 44, 45, 46, 59, 60, 61, 62, 75, 76, 77, 78, 79, 87, 89, 95, 96,
            100, 104, 108, 112, 116, 120, 122, 124, 126, 128, 130, 172, 177, 190},
        {16, 21, 25, 54, 58, 188},
        {17, 132, 153, 154, 155, 156, 157, 158, 159, 160, 161, 162, 163, 164, 165, 166, 167, 178, 179, 184, 198, 199},
    };

    private static void others() {
        int[] sizes = new int[256];
        for (int size = 1; size <= 3; size++) {
            for (int o : OPERATIONS[size - 1]) {
                sizes[o] = size;
            }
        }
        for (int o = 0; o < 256; o++) {
            int operand = o == 188 ? 10 : 0;
            int[][] forms = {{o}, {o, operand}, {o, operand, 0}};
            for (int length = 1; length <= 3; length++) {
                // What is left behind a shorter instruction is no operation, so only the right length fits.
                Check.due("operation " + o + " in " + length + " bytes", sizes[o] == length ? "1" : NO_SHAPE,
                        shapeOf(8, forms[length - 1]));
            }
        }
    }

    private static void intsWrap() {
        int[][] rows = {
            {96, MAX, 1, MIN}, {96, MIN, -1, MAX}, {96, MAX, 0, MAX}, {100, MIN, 1, MAX}, {100, MAX, -1, MIN},
            {100, 0, MIN, MIN}, {104, MAX, 2, -2}, {104, MIN, -1, MIN}, {104, 65536, 65536, 0},
            {104, 46341, 46341, -2147479015},
            {108, MIN, -1, MIN}, {108, MIN, 1, MIN}, {108, -7, 2, -3}, {108, 7, -2, -3}, {112, MIN, -1, 0},
            {112, -7, 2, -1}, {112, 7, -2, 1}, {120, 1, 31, MIN}, {120, 3, 31, MIN},
        };
        for (int[] r : rows) {
            Check.due(r[0] + " of " + r[1] + " and " + r[2], "gives " + r[3],
                    gives(2, code(26, 27, r[0], 172), r[1], r[2]));
        }
        Check.due("- of the lowest", "gives " + MIN, gives(1, code(26, 116, 172), MIN));
        Check.due("- of the highest", "gives " + (MIN + 1), gives(1, code(26, 116, 172), MAX));
        Check.due("the highest grows by 1", "gives " + MIN, gives(1, code(132, 0, 1, 26, 172), MAX));
        Check.due("the lowest grows by -1", "gives " + MAX, gives(1, code(132, 0, 255, 26, 172), MIN));
    }

    private static void shifts() {
        int[][] rows = {
            {120, 5, 0, 5}, {120, 5, 31, MIN}, {120, 5, 32, 5}, {120, 5, 33, 10}, {120, 1, -1, MIN}, {120, 5, -32, 5},
            {122, -8, 0, -8}, {122, MIN, 31, -1}, {122, -8, 32, -8}, {122, -8, 33, -4}, {122, MAX, 31, 0},
            {122, MIN, -1, -1}, {122, -8, -32, -8},
            {124, -8, 0, -8}, {124, MIN, 31, 1}, {124, -8, 32, -8}, {124, -8, 33, MAX - 3}, {124, -1, -1, 1},
            {124, -8, -32, -8}, {124, -1, 1, MAX},
        };
        for (int[] r : rows) {
            Check.due(r[0] + " of " + r[1] + " by " + r[2], "gives " + r[3],
                    gives(2, code(26, 27, r[0], 172), r[1], r[2]));
        }
    }

    private static void jumps() {
        // 0 167 to 5; 3 8; 4 172; 5 167 to 9; 8 172, to which nothing comes; 9 167 to 3.
        FrameWalk x = Check.verified(Check.one(0, 0, 1, true, 167, 0, 5, 8, 172, 167, 0, 4, 172, 167, 255, 250));
        x.start(0);
        for (int place : new int[] {0, 5, 9, 3, 4}) {
            Check.due("the place", place, x.frame(0, 1));
            x.run(1);
        }
        Check.due("result", 5, x.result());
        FrameWalk itself = Check.verified(Check.one(0, 0, 0, false, 167, 0, 0));
        itself.start(0);
        Check.due("to itself", 100, () -> itself.run(100));
        Check.due("it is still there", 0, itself.frame(0, 1));
        FrameWalk next = Check.verified(Check.one(0, 0, 0, false, 167, 0, 3, 177));
        next.start(0);
        next.run(1);
        Check.due("to the next", 3, next.frame(0, 1));
        farJump();
    }

    /** The greatest distance, there and back: 197 is the last place at which a jump is whole. */
    private static void farJump() {
        int[] far = new int[200];
        Arrays.fill(far, 177);
        far[0] = 167;
        far[1] = 0;
        far[2] = 197;
        far[197] = 167;
        far[198] = 255;
        far[199] = 59;
        FrameWalk there = Check.verified(Check.one(0, 0, 0, false, far));
        there.start(0);
        there.run(1);
        Check.due("197 on", 197, there.frame(0, 1));
        there.run(1);
        Check.due("197 back", 0, there.frame(0, 1));
    }
}
