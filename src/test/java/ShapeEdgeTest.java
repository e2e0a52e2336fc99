import java.util.Arrays;

/** The SHAPE of "Terms", part by part, with the last that is right and the first that is not. */
public final class ShapeEdgeTest {
    private static final String NO_SHAPE = "no shape in 0";
    private static final int MIN = Integer.MIN_VALUE;
    private static final int MAX = Integer.MAX_VALUE;

    public static void main(String[] args) {
        Check.sentence("from place 0 on, instruction follows instruction up to its end", ShapeEdgeTest::follows);
        Check.sentence("each is one of these", ShapeEdgeTest::oneOfThese);
        Check.sentence("whole", ShapeEdgeTest::whole);
        Check.sentence("with locals that there are", ShapeEdgeTest::locals);
        Check.sentence("statics 0 .. 7", ShapeEdgeTest::statics);
        Check.sentence("methods that there are", ShapeEdgeTest::methods);
        Check.sentence("188 with 10", ShapeEdgeTest::arrays);
        Check.sentence("jumps go to the beginning of an instruction of it", ShapeEdgeTest::jumps);
        Check.sentence("handlers' targets go to the beginning of an instruction of it", ShapeEdgeTest::targets);
        Check.sentence("handlers have 0 <= from", ShapeEdgeTest::from);
        Check.sentence("from < to", ShapeEdgeTest::fromBeforeTo);
        Check.sentence("to <= its length", ShapeEdgeTest::to);
        Check.sentence("both beginnings of instructions (to also its end)", ShapeEdgeTest::bothBeginnings);
        Check.sentence("and a kind 0 .. 4", ShapeEdgeTest::kinds);
        Check.end("ShapeEdgeTest");
    }

    private static String verdictOf(int locals, int... bytes) {
        return Check.verdict(Check.one(0, locals, 1, false, bytes));
    }

    private static void follows() {
        Check.due("an operand that looks like an operation that is cut off", "3", verdictOf(0, 16, 17, 87, 177));
        Check.due("an operand that is no operation", "3", verdictOf(0, 16, 255, 87, 177));
        Check.due("the same byte as an operation", NO_SHAPE, verdictOf(0, 255, 16, 87, 177));
        Check.due("one without a state, at the end", "1", verdictOf(0, 177, 87));
        Check.due("one without a state, at the end, is none", NO_SHAPE, verdictOf(0, 177, 88));
        Check.due("one without a state, in between", NO_SHAPE, verdictOf(0, 167, 0, 4, 88, 177));
        Check.due("the same, an operation", "2", verdictOf(0, 167, 0, 4, 87, 177));
        Check.due("the first", NO_SHAPE, verdictOf(0, 0, 177));
        FrameWalk last = Check.fed(177, 87, 88);
        last.method(2, 0, 0, 1, false);
        Check.due("a byte behind its end", "1", Check.verdict(last));
    }

    private static void oneOfThese() {
        // Each pair: the last that is an operation, and the first that is none, or the other way round.
        int[][] pairs = {
            {1, 0}, {8, 9}, {26, 30}, {29, 31}, {42, 41}, {46, 47}, {59, 63}, {62, 64}, {75, 74}, {79, 80}, {87, 86},
            {87, 88}, {89, 90}, {95, 94}, {96, 97}, {100, 99}, {100, 101}, {104, 103}, {104, 105}, {108, 107},
            {108, 109}, {112, 111}, {112, 113}, {116, 115}, {116, 117}, {120, 119}, {120, 121}, {122, 123}, {124, 125},
            {126, 127}, {128, 129}, {130, 131}, {172, 171}, {172, 173}, {177, 176}, {190, 189}, {190, 191},
            {1, 255}, {1, 254}, {1, 256}, {1, -1}, {257, 0},
        };
        for (int[] p : pairs) {
            Check.due("operation " + p[0], "1", verdictOf(8, 177, p[0]));
            Check.due("operation " + p[1], NO_SHAPE, verdictOf(8, 177, p[1]));
        }
        int[][] words = {{17, 18}, {132, 133}, {153, 152}, {167, 168}, {178, 180}, {184, 183}, {184, 185}, {198, 197},
            {199, 200}};
        for (int[] p : words) {
            Check.due("operation " + p[0], "1", verdictOf(8, 177, p[0], 0, 0));
            Check.due("operation " + p[1], NO_SHAPE, verdictOf(8, 177, p[1], 0, 0));
            Check.due("operation " + p[1] + " before 87, 87", NO_SHAPE, verdictOf(8, 177, p[1], 87, 87));
        }
        int[][] bytes = {{16, 15}, {21, 20}, {21, 22}, {25, 24}, {54, 53}, {54, 55}, {58, 57}};
        for (int[] p : bytes) {
            Check.due("operation " + p[0], "1", verdictOf(8, 177, p[0], 0));
            Check.due("operation " + p[1], NO_SHAPE, verdictOf(8, 177, p[1], 0));
            Check.due("operation " + p[1] + " before 87", NO_SHAPE, verdictOf(8, 177, p[1], 87));
        }
    }

    private static void whole() {
        for (int o : new int[] {16, 21, 25, 54, 58}) {
            Check.due(o + " with its byte", "1", verdictOf(8, 177, o, 0));
            Check.due(o + " without it", NO_SHAPE, verdictOf(8, 177, o));
        }
        int[] words = {17, 132, 153, 154, 155, 156, 157, 158, 159, 160, 161, 162, 163, 164, 165, 166, 167, 178, 179,
            184, 198, 199};
        for (int o : words) {
            Check.due(o + " with both", "1", verdictOf(8, 177, o, 0, 0));
            Check.due(o + " with one", NO_SHAPE, verdictOf(8, 177, o, 0));
            Check.due(o + " with none", NO_SHAPE, verdictOf(8, 177, o));
        }
        Check.due("188 with its byte", "1", verdictOf(8, 177, 188, 10));
        Check.due("188 without it", NO_SHAPE, verdictOf(8, 177, 188));
        // Bytes of the next method, or of none, do not make it whole.
        FrameWalk next = Check.fed(177, 188, 10, 177);
        next.method(2, 0, 0, 1, false);
        next.method(1, 0, 0, 1, false);
        Check.due("its byte in the next method", NO_SHAPE, Check.verdict(next));
        FrameWalk behind = Check.fed(177, 17, 0, 0);
        behind.method(3, 0, 0, 1, false);
        Check.due("its byte in no method", NO_SHAPE, Check.verdict(behind));
        int[] full = new int[200];
        Arrays.fill(full, 177);
        full[198] = 16;
        Check.due("the last two of 200 bytes", "1", verdictOf(0, full));
        full[198] = 177;
        full[199] = 16;
        Check.due("the last one of 200 bytes", NO_SHAPE, verdictOf(0, full));
        full[198] = 17;
        full[199] = 0;
        Check.due("the last two, of three", NO_SHAPE, verdictOf(0, full));
        full[197] = 17;
        full[198] = 0;
        Check.due("the last three", "1", verdictOf(0, full));
    }

    private static void locals() {
        for (int locals = 0; locals <= 8; locals++) {
            for (int o : new int[] {21, 25, 54, 58}) {
                if (locals > 0) {
                    Check.due(o + " of the last of " + locals, "1", verdictOf(locals, 177, o, locals - 1));
                }
                Check.due(o + " behind the last of " + locals, NO_SHAPE, verdictOf(locals, 177, o, locals));
            }
            if (locals > 0) {
                Check.due("132 of the last of " + locals, "1", verdictOf(locals, 177, 132, locals - 1, 1));
            }
            Check.due("132 behind the last of " + locals, NO_SHAPE, verdictOf(locals, 177, 132, locals, 1));
            for (int o : new int[] {26, 42, 59, 75}) {
                for (int n = 0; n <= 3; n++) {
                    Check.due(o + n + " of " + locals, n < locals ? "1" : NO_SHAPE, verdictOf(locals, 177, o + n));
                }
            }
        }
    }

    private static void statics() {
        for (int o = 178; o <= 179; o++) {
            Check.due(o + " of 0", "1", verdictOf(0, 177, o, 0, 0));
            Check.due(o + " of 7", "1", verdictOf(0, 177, o, 0, 7));
            Check.due(o + " of 8", NO_SHAPE, verdictOf(0, 177, o, 0, 8));
            Check.due(o + " of -1", NO_SHAPE, verdictOf(0, 177, o, 255, 255));
        }
    }

    private static void methods() {
        for (int count = 1; count <= 8; count++) {
            for (int w = -1; w <= 9; w++) {
                FrameWalk x = Check.fed(177, 184, w >> 8, w);
                Check.feed(x, 177, 177, 177, 177, 177, 177, 177, 177);
                x.method(4, 0, 0, 0, false);
                for (int m = 1; m < count; m++) {
                    x.method(1, 0, 0, 0, false);
                }
                boolean isThere = w >= 0 && w < count;
                Check.due("method " + w + " of " + count, isThere ? "" + count : NO_SHAPE, Check.verdict(x));
            }
        }
    }

    private static void arrays() {
        for (int n : new int[] {0, 4, 9, 11, 138, 255}) {
            Check.due("188 with " + n, NO_SHAPE, verdictOf(0, 177, 188, n));
        }
        Check.due("188 with 10", "1", verdictOf(0, 177, 188, 10));
    }

    /** Method 1 of three, of 8 bytes: 0 177; 1 a jump; 4 16 9; 6 87; 7 177. */
    private static FrameWalk inTheMiddle(int jump, int w) {
        FrameWalk x = Check.fed(177, 177, 177, jump, w >> 8, w, 16, 9, 87, 177, 177, 177);
        x.method(2, 0, 0, 1, false);
        x.method(8, 0, 0, 1, false);
        return x;
    }

    private static FrameWalk withTheLast(FrameWalk x) {
        x.method(2, 0, 0, 1, false);
        return x;
    }

    private static boolean isBeginning(int place) {
        return place == 0 || place == 1 || place == 4 || place == 6 || place == 7;
    }

    private static void jumps() {
        int[] jumps = {153, 154, 155, 156, 157, 158, 159, 160, 161, 162, 163, 164, 165, 166, 167, 198, 199};
        for (int o : jumps) {
            for (int place = -2; place <= 10; place++) {
                FrameWalk x = withTheLast(inTheMiddle(o, place - 1));
                Check.due(o + " to place " + place, isBeginning(place) ? "3" : "no shape in 1", Check.verdict(x));
            }
        }
        jumpsFromPlaceZero();
    }

    private static void jumpsFromPlaceZero() {
        Check.due("from 0 to the last", "2", verdictOf(0, 167, 0, 3, 177));
        Check.due("from 0 to the end", NO_SHAPE, verdictOf(0, 167, 0, 4, 177));
        Check.due("from 0 to itself", "1", verdictOf(0, 167, 0, 0, 177));
        Check.due("from 0 to -1", NO_SHAPE, verdictOf(0, 167, 255, 255, 177));
        Check.due("from 0 into itself", NO_SHAPE, verdictOf(0, 167, 0, 1, 177));
        int[] full = new int[200];
        Arrays.fill(full, 177);
        full[0] = 167;
        full[1] = 0;
        full[2] = 199;
        Check.due("to the last of 200 bytes", "2", verdictOf(0, full));
        full[2] = 200;
        Check.due("behind the last of 200 bytes", NO_SHAPE, verdictOf(0, full));
        // Before clear an instruction began at place 4; now that is the end.
        FrameWalk again = Check.one(0, 0, 0, false, 177, 177, 177, 177, 177);
        again.verify();
        again.clear();
        Check.feed(again, 177, 167, 0, 3);
        again.method(4, 0, 0, 0, false);
        Check.due("to where an instruction was before clear", NO_SHAPE, Check.verdict(again));
    }

    private static String handlerVerdict(int from, int to, int target, int kind) {
        FrameWalk x = inTheMiddle(167, 0);
        x.handler(from, to, target, kind);
        return Check.verdict(withTheLast(x));
    }

    private static void targets() {
        for (int place = -2; place <= 10; place++) {
            Check.due("target " + place, isBeginning(place) ? "3" : "no shape in 1", handlerVerdict(4, 6, place, 0));
        }
        Check.due("the lowest target", "no shape in 1", handlerVerdict(4, 6, MIN, 0));
        Check.due("the highest target", "no shape in 1", handlerVerdict(4, 6, MAX, 0));
    }

    private static void from() {
        Check.due("from 0", "5", handlerVerdict(0, 1, 6, 0));
        Check.due("from -1", "no shape in 1", handlerVerdict(-1, 1, 6, 0));
        Check.due("from -2", "no shape in 1", handlerVerdict(-2, 1, 6, 0));
        Check.due("from the lowest", "no shape in 1", handlerVerdict(MIN, 1, 6, 0));
    }

    private static void fromBeforeTo() {
        int[] beginnings = {0, 1, 4, 6, 7, 8};
        for (int from : beginnings) {
            for (int to : beginnings) {
                String due = from >= to ? "no shape in 1" : from == 0 ? "5" : "3";
                Check.due("from " + from + " to " + to, due, handlerVerdict(from, to, 6, 0));
            }
        }
        Check.due("from the highest", "no shape in 1", handlerVerdict(MAX, 8, 6, 0));
        Check.due("to the lowest", "no shape in 1", handlerVerdict(1, MIN, 6, 0));
    }

    private static void to() {
        Check.due("to 7", "3", handlerVerdict(6, 7, 6, 0));
        Check.due("to 8", "3", handlerVerdict(6, 8, 6, 0));
        Check.due("to 9", "no shape in 1", handlerVerdict(6, 9, 6, 0));
        Check.due("to 10", "no shape in 1", handlerVerdict(6, 10, 6, 0));
        Check.due("to the highest", "no shape in 1", handlerVerdict(6, MAX, 6, 0));
    }

    private static void bothBeginnings() {
        for (int from = 1; from < 8; from++) {
            Check.due("from " + from, isBeginning(from) ? "3" : "no shape in 1", handlerVerdict(from, 8, 6, 0));
        }
        for (int to = 2; to <= 9; to++) {
            Check.due("to " + to, isBeginning(to) || to == 8 ? "3" : "no shape in 1", handlerVerdict(1, to, 6, 0));
        }
        Check.due("from its end", "no shape in 1", handlerVerdict(8, 9, 6, 0));
    }

    private static void kinds() {
        for (int kind = 0; kind <= 4; kind++) {
            Check.due("kind " + kind, "3", handlerVerdict(4, 6, 6, kind));
        }
        for (int kind : new int[] {MIN, -1, 5, MAX}) {
            Check.due("kind " + kind, "no shape in 1", handlerVerdict(4, 6, 6, kind));
        }
        for (int wrong = 0; wrong < 4; wrong++) {
            FrameWalk x = inTheMiddle(167, 0);
            for (int h = 0; h < 4; h++) {
                x.handler(4, 6, 6, h == wrong ? 5 : 4);
            }
            Check.due("handler " + wrong + " of four", "no shape in 1", Check.verdict(withTheLast(x)));
        }
    }
}
