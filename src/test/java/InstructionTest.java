/** Promise 10, instruction by instruction: what a step makes of locals and stack. */
public final class InstructionTest {
    private static final int[] INTS = {
        0, 1, -1, 2, -2, 3, 5, 7, -7, 31, 32, 33, 63, -31, 127, -128, 1000, 65536, 123456789, -987654321,
        Integer.MAX_VALUE, Integer.MIN_VALUE, Integer.MIN_VALUE + 1,
    };

    public static void main(String[] args) {
        constants();
        calculations();
        grows();
        relations();
        nulls();
        sameArrays();
        localForms();
        moves();
        Check.end("InstructionTest");
    }

    private static int result(FrameWalk x, int... arguments) {
        Check.start(x, 0, arguments);
        Check.finish(x);
        return x.state() == 2 ? x.result() : -1000000 - x.state();
    }

    private static FrameWalk verified(int arguments, int locals, int height, boolean givesInt, int... bytes) {
        FrameWalk x = Check.one(arguments, locals, height, givesInt, bytes);
        x.verify();
        return x;
    }

    private static void constants() {
        for (int o = 2; o <= 8; o++) {
            Check.due("operation " + o, o - 3, result(verified(0, 0, 1, true, o, 172)));
        }
        for (int b = 0; b < 256; b++) {
            Check.due("16 " + b, (int) (byte) b, result(verified(0, 0, 1, true, 16, b, 172)));
            Check.due("17 " + b + " 200", (int) (short) (b << 8 | 200),
                    result(verified(0, 0, 1, true, 17, b, 200, 172)));
        }
    }

    private static Object due(int o, int a, int b) {
        switch (o) {
            case 96: return a + b;
            case 100: return a - b;
            case 104: return a * b;
            case 108: return b == 0 ? -1000003 : a / b;
            case 112: return b == 0 ? -1000003 : a % b;
            case 120: return a << (b & 31);
            case 122: return a >> (b & 31);
            case 124: return a >>> (b & 31);
            case 126: return a & b;
            case 128: return a | b;
            default: return a ^ b;
        }
    }

    private static void calculations() {
        for (int o : new int[] {96, 100, 104, 108, 112, 120, 122, 124, 126, 128, 130}) {
            for (int a : INTS) {
                FrameWalk x = verified(2, 2, 2, true, 26, 27, o, 172);
                for (int b : INTS) {
                    Check.due(a + " " + o + " " + b, due(o, a, b), result(x, a, b));
                }
            }
        }
        FrameWalk negate = verified(1, 1, 1, true, 26, 116, 172);
        for (int a : INTS) {
            Check.due("- " + a, -a, result(negate, a));
        }
    }

    private static void grows() {
        for (int b = 0; b < 256; b++) {
            FrameWalk x = verified(2, 2, 1, true, 132, 1, b, 27, 172);
            for (int a : INTS) {
                Check.due(a + " grows by " + b, a + (byte) b, result(x, 55, a));
            }
            Check.start(x, 0, 9, 9);
            x.run(1);
            Check.due("the other local", 9, x.local(0));
            Check.due("the place", 3, x.frame(0, 1));
        }
    }

    private static boolean isSo(int relation, int a, int b) {
        boolean[] so = {a == b, a != b, a < b, a >= b, a > b, a <= b};
        return so[relation];
    }

    private static void relations() {
        for (int r = 0; r < 6; r++) {
            // 0 26; 1 to 6; 4 3; 5 172; 6 4; 7 172.
            FrameWalk toZero = verified(1, 1, 1, true, 26, 153 + r, 0, 5, 3, 172, 4, 172);
            for (int a : INTS) {
                FrameWalk two = verified(2, 2, 2, true, 26, 27, 159 + r, 0, 5, 3, 172, 4, 172);
                Check.due("operation " + (153 + r) + " of " + a, isSo(r, a, 0) ? 1 : 0, result(toZero, a));
                for (int b : INTS) {
                    Check.due("operation " + (159 + r) + " of " + a + ", " + b, isSo(r, a, b) ? 1 : 0,
                            result(two, a, b));
                }
            }
        }
        // 0 167 to 5; 3 4; 4 172; 5 167 to 3.
        Check.due("a jump is made", 5, result(verified(0, 0, 1, true, 167, 0, 5, 4, 172, 8, 172)));
        Check.due("jumps there and back", 1, result(verified(0, 0, 1, true, 167, 0, 5, 4, 172, 167, 255, 254)));
    }

    private static void nulls() {
        Check.due("null is null", 1, result(verified(0, 0, 1, true, 1, 198, 0, 5, 3, 172, 4, 172)));
        Check.due("null is not not null", 0, result(verified(0, 0, 1, true, 1, 199, 0, 5, 3, 172, 4, 172)));
        Check.due("an array is not null", 0, result(verified(0, 0, 1, true, 3, 188, 10, 198, 0, 5, 3, 172, 4, 172)));
        Check.due("an array is not null, 199", 1,
                result(verified(0, 0, 1, true, 3, 188, 10, 199, 0, 5, 3, 172, 4, 172)));
    }

    private static void sameArrays() {
        // Locals: 0 and 1 are two arrays of the same size, 2 is null.
        int[] refs = {42, 43, 44};
        for (int a = 0; a < 3; a++) {
            for (int b = 0; b < 3; b++) {
                for (int o = 165; o <= 166; o++) {
                    FrameWalk x = verified(0, 3, 2, true, 3, 188, 10, 75, 3, 188, 10, 76, 1, 77,
                            refs[a], refs[b], o, 0, 5, 3, 172, 4, 172);
                    Check.due("REFs " + a + " " + o + " " + b, (a == b) == (o == 165) ? 1 : 0, result(x));
                }
            }
        }
        Check.due("null twice", 1, result(verified(0, 0, 2, true, 1, 1, 165, 0, 5, 3, 172, 4, 172)));
        Check.due("the same one twice", 1,
                result(verified(0, 0, 2, true, 3, 188, 10, 89, 165, 0, 5, 3, 172, 4, 172)));
    }

    private static void localForms() {
        for (int n = 0; n < 8; n++) {
            FrameWalk x = verified(0, 8, 1, true, 16, 90 + n, 54, n, 21, n, 172);
            Check.due("local " + n, 90 + n, result(x));
            x.start(0);
            x.run(2);
            for (int k = 0; k < 8; k++) {
                Check.due("54 " + n + ": local " + k, k == n ? 90 + n : 0, x.local(k));
            }
            FrameWalk ref = verified(0, 8, 1, true, 8, 188, 10, 58, n, 25, n, 190, 172);
            Check.due("REF local " + n, 5, result(ref));
        }
        for (int n = 0; n < 4; n++) {
            Check.due("short local " + n, 17, result(verified(0, 8, 1, true, 16, 17, 59 + n, 26 + n, 172)));
            Check.due("short and long " + n, 17, result(verified(0, 8, 1, true, 16, 17, 59 + n, 21, n, 172)));
            Check.due("long and short " + n, 17, result(verified(0, 8, 1, true, 16, 17, 54, n, 26 + n, 172)));
            Check.due("short REF " + n, 5, result(verified(0, 8, 1, true, 8, 188, 10, 75 + n, 42 + n, 190, 172)));
            Check.due("short and long REF " + n, 5,
                    result(verified(0, 8, 1, true, 8, 188, 10, 75 + n, 25, n, 190, 172)));
        }
    }

    private static void moves() {
        FrameWalk x = verified(2, 2, 4, false, 26, 27, 89, 87, 95, 1, 95, 87, 167, 0, 0);
        Check.start(x, 0, 10, 20);
        int[][] stacks = {{10}, {20, 10}, {20, 20, 10}, {20, 10}, {10, 20}, {-1, 10, 20}, {10, -1, 20}, {-1, 20}};
        for (int step = 0; step < stacks.length; step++) {
            Check.due("step " + step, 1, () -> x.run(1));
            Check.due("how many behind step " + step, stacks[step].length, x.frame(0, 2));
            Check.due("the place behind step " + step, step + 1, x.frame(0, 1));
            for (int k = 0; k < stacks[step].length; k++) {
                Check.due("stack " + k + " behind step " + step, stacks[step][k], x.stack(k));
            }
        }
        // An array's ints are kept in it: a[1] = 9, a[0] = 8; 10 * a[1] + a[0].
        FrameWalk array = verified(0, 1, 3, true, 5, 188, 10, 75, 42, 4, 16, 9, 79, 42, 3, 16, 8, 79,
                42, 4, 46, 16, 10, 104, 42, 3, 46, 96, 172);
        Check.due("an array", 98, result(array));
        Check.due("its cells", 8, array.heap(1));
        for (int n = 0; n < 120; n++) {
            FrameWalk length = verified(1, 1, 1, true, 26, 188, 10, 190, 172);
            Check.due("length " + n, n, result(length, n));
            Check.due("heap of length " + n, n + 1, length.heap(-1));
        }
        FrameWalk statics = verified(2, 2, 1, true, 26, 179, 0, 3, 27, 179, 0, 4, 178, 0, 3, 172);
        Check.due("statics", -77, result(statics, -77, 5));
        Check.due("static 4", 5, statics.getStatic(4));
    }
}
