/** Promises 9 to 18: start, run, and what is seen of the machine. */
public final class RunTest {
    public static void main(String[] args) {
        start();
        startAgain();
        run();
        results();
        framesAndCalls();
        localsAndStack();
        staticsAndHeap();
        traps();
        room();
        handlersInOrder();
        handlersOfCallers();
        Check.end("RunTest");
    }

    private static FrameWalk verified(FrameWalk x) {
        x.verify();
        return x;
    }

    private static void start() {
        FrameWalk x = Check.fed(26, 172, 177);
        x.method(2, 1, 1, 1, true);
        x.method(1, 0, 0, 0, false);
        Check.due("not verified", Check.STATE, () -> x.start(1));
        Check.due("not verified, and not as many", Check.ARGUMENT, () -> x.start(0));
        Check.due("not verified, no such method", Check.ARGUMENT, () -> x.start(2));
        x.argument(9);
        Check.due("not verified, too many", Check.ARGUMENT, () -> x.start(1));
        Check.due("not verified, as many", Check.STATE, () -> x.start(0));
        Check.due("idle", 0, x.state());
        x.verify();
        Check.due("verified is not running", 0, x.state());
        Check.due("too many", Check.ARGUMENT, () -> x.start(1));
        Check.due("no such method", Check.ARGUMENT, () -> x.start(2));
        Check.due("no such method below", Check.ARGUMENT, () -> x.start(-1));
        Check.due("no such method far", Check.ARGUMENT, () -> x.start(Integer.MAX_VALUE));
        Check.due("still idle", 0, x.state());
        Check.due("the arguments stayed", true, () -> x.start(0));
        Check.due("running", 1, x.state());
        Check.due("the argument", 9, x.local(0));
        Check.due("they are used up", Check.ARGUMENT, () -> x.start(0));
        Check.due("which leaves it running", 1, x.state());
        Check.due("in its frame", 1, x.depth());
        Check.due("none is as many", true, () -> x.start(1));
        Check.due("in method 1", 1, x.frame(0, 0));
    }

    private static void startAgain() {
        // 0 26; 1 179 0; 4 26; 5 188 10; 7 58 1; 9 5; 10 184 0; 13 172; it calls itself for ever.
        FrameWalk x = verified(Check.one(1, 2, 1, true, 26, 179, 0, 0, 26, 188, 10, 58, 1, 5, 184, 0, 0, 172));
        Check.start(x, 0, 3);
        x.run(9);
        Check.due("static", 2, x.getStatic(0));
        Check.due("heap", 4, x.heap(-1));
        Check.due("heap(0)", 3, x.heap(0));
        Check.due("depth", 2, x.depth());
        Check.start(x, 0, 4);
        Check.due("started again: state", 1, x.state());
        Check.due("started again: depth", 1, x.depth());
        Check.due("started again: static", 0, x.getStatic(0));
        Check.due("started again: heap", 0, x.heap(-1));
        Check.due("started again: heap(0)", 0, x.heap(0));
        Check.due("started again: place", 0, x.frame(0, 1));
        Check.due("started again: stack", 0, x.frame(0, 2));
        Check.due("started again: local 0", 4, x.local(0));
        Check.due("started again: local 1", 0, x.local(1));
        x.run(4);
        Check.due("its array is the first", 0, x.stack(0));
        Check.due("of 4", 4, x.heap(0));
    }

    private static void run() {
        FrameWalk x = verified(Check.one(0, 0, 0, false, 167, 0, 0));
        Check.due("idle: run", 0, () -> x.run(100));
        Check.due("idle: run(101)", Check.ARGUMENT, () -> x.run(101));
        Check.due("idle: run(-1)", Check.ARGUMENT, () -> x.run(-1));
        x.start(0);
        Check.due("run(0)", 0, () -> x.run(0));
        Check.due("run(1)", 1, () -> x.run(1));
        Check.due("run(100)", 100, () -> x.run(100));
        Check.due("run(101)", Check.ARGUMENT, () -> x.run(101));
        Check.due("run(-1)", Check.ARGUMENT, () -> x.run(-1));
        Check.due("run(max)", Check.ARGUMENT, () -> x.run(Integer.MAX_VALUE));
        Check.due("run(min)", Check.ARGUMENT, () -> x.run(Integer.MIN_VALUE));
        Check.due("running", 1, x.state());

        FrameWalk ends = verified(Check.one(0, 0, 1, false, 3, 87, 177));
        ends.start(0);
        Check.due("up to its end", 3, () -> ends.run(50));
        Check.due("done", 2, ends.state());
        Check.due("no more", 0, () -> ends.run(50));
        ends.start(0);
        Check.due("not so far", 2, () -> ends.run(2));
        Check.due("running still", 1, ends.state());
        Check.due("the last", 1, () -> ends.run(2));
    }

    private static void results() {
        FrameWalk x = Check.fed(16, 77, 172, 177, 3, 3, 108, 172);
        x.method(3, 0, 0, 1, true);
        x.method(1, 0, 0, 0, false);
        x.method(4, 0, 0, 2, true);
        x.verify();
        Check.due("idle", 0, x.result());
        x.start(0);
        x.run(1);
        Check.due("running", 0, x.result());
        x.run(1);
        Check.due("done", 77, x.result());
        Check.due("still", 77, x.result());
        x.start(0);
        Check.due("running again", 0, x.result());
        x.run(9);
        x.start(1);
        x.run(9);
        Check.due("gave nothing: state", 2, x.state());
        Check.due("gave nothing", 0, x.result());
        x.start(2);
        x.run(9);
        Check.due("trapped: state", 3, x.state());
        Check.due("trapped", 0, x.result());

        // The called one gives an int, the first one does not.
        FrameWalk inner = Check.fed(184, 0, 1, 87, 177, 8, 172);
        inner.method(5, 0, 0, 1, false);
        inner.method(2, 0, 0, 1, true);
        inner.verify();
        inner.start(0);
        Check.due("steps", 5, () -> inner.run(9));
        Check.due("what the first gave counts", 0, inner.result());
        inner.start(1);
        inner.run(9);
        Check.due("started as the first", 5, inner.result());
    }

    private static void framesAndCalls() {
        // Method 0: 0 17 1000; 3 3; 4 5; 5 184 1; 8 96; 9 172. Method 1: 26, 27, 100, 60, 27, 172.
        FrameWalk x = Check.fed(17, 3, 232, 4, 8, 184, 0, 1, 96, 172, 26, 27, 100, 60, 27, 172);
        x.method(10, 0, 0, 3, true);
        x.method(6, 2, 2, 2, true);
        x.verify();
        x.start(0);
        x.run(3);
        Check.due("three on the stack", 3, x.frame(0, 2));
        Check.due("at the call", 5, x.frame(0, 1));
        x.run(1);
        Check.due("two frames", 2, x.depth());
        Check.due("latest: method", 1, x.frame(0, 0));
        Check.due("latest: place", 0, x.frame(0, 1));
        Check.due("latest: stack", 0, x.frame(0, 2));
        Check.due("first: method", 0, x.frame(1, 0));
        Check.due("first: the place of the call", 5, x.frame(1, 1));
        Check.due("first: the arguments are gone", 1, x.frame(1, 2));
        Check.due("no frame 2", -1, x.frame(2, 0));
        Check.due("no frame -1", -1, x.frame(-1, 0));
        Check.due("no frame min", -1, x.frame(Integer.MIN_VALUE, 0));
        Check.due("no frame max", -1, x.frame(Integer.MAX_VALUE, 1));
        Check.due("no what 3", -1, x.frame(0, 3));
        Check.due("no what -1", -1, x.frame(0, -1));
        Check.due("local 0 is the first argument", 1, x.local(0));
        Check.due("local 1 is the last", 5, x.local(1));
        Check.due("the stack is its own", 0, x.stack(0));
        x.run(5);
        Check.due("it is about to give", -4, x.stack(0));
        x.run(1);
        Check.due("back: depth", 1, x.depth());
        Check.due("back: behind the call", 8, x.frame(0, 1));
        Check.due("back: stack", 2, x.frame(0, 2));
        Check.due("back: what was given", -4, x.stack(0));
        Check.due("back: what lay below", 1000, x.stack(1));
        x.run(2);
        Check.due("result", 996, x.result());
        Check.due("no frames", 0, x.depth());
        Check.due("frame 0 is none", -1, x.frame(0, 0));

        FrameWalk nothing = Check.fed(3, 184, 0, 1, 172, 177);
        nothing.method(5, 0, 0, 1, true);
        nothing.method(1, 0, 0, 0, false);
        nothing.verify();
        nothing.start(0);
        nothing.run(3);
        Check.due("nothing is put on the stack", 1, nothing.frame(0, 2));
        Check.due("what lay there", 0, nothing.stack(0));
    }

    private static void localsAndStack() {
        FrameWalk x = verified(Check.one(2, 5, 4, false, 1, 77, 8, 54, 4, 26, 27, 1, 7, 188, 10, 167, 0, 0));
        Check.start(x, 0, -7, 70);
        int[] first = {-7, 70, 0, 0, 0};
        seen("at first", x, first, new int[0]);
        x.run(4);
        seen("set", x, new int[] {-7, 70, -1, 0, 5}, new int[0]);
        x.run(5);
        seen("pushed", x, new int[] {-7, 70, -1, 0, 5}, new int[] {0, -1, 70, -7});
        Check.due("how many", 4, x.frame(0, 2));

        // A frame shows 0 in its locals, whatever lay in those cells before.
        FrameWalk again = Check.fed(184, 0, 1, 184, 0, 1, 177, 8, 59, 8, 60, 177);
        again.method(7, 0, 0, 0, false);
        again.method(5, 0, 2, 1, false);
        again.verify();
        again.start(0);
        again.run(5);
        Check.due("set in the first call", 5, again.local(1));
        again.run(2);
        Check.due("in the second: depth", 2, again.depth());
        seen("in the second", again, new int[] {0, 0}, new int[0]);
    }

    private static void seen(String what, FrameWalk x, int[] locals, int[] fromTop) {
        for (int n = -1; n < 12; n++) {
            Check.due(what + ": local " + n, n >= 0 && n < locals.length ? locals[n] : 0, x.local(n));
            Check.due(what + ": stack " + n, n >= 0 && n < fromTop.length ? fromTop[n] : 0, x.stack(n));
        }
        for (int far : new int[] {Integer.MIN_VALUE, Integer.MAX_VALUE}) {
            Check.due(what + ": local " + far, 0, x.local(far));
            Check.due(what + ": stack " + far, 0, x.stack(far));
        }
    }

    private static void staticsAndHeap() {
        // Static i is set to i + 10, then two arrays: of 2, with 9 at 1, and of 0; then one of 1.
        FrameWalk x = new FrameWalk();
        for (int i = 0; i < 8; i++) {
            Check.feed(x, 16, 10 + i, 179, 0, i);
        }
        Check.feed(x, 5, 188, 10, 89, 4, 16, 9, 79, 87, 3, 188, 10, 87, 4, 188, 10, 87, 177);
        x.method(40 + 18, 0, 0, 4, false);
        x.verify();
        x.start(0);
        x.run(16);
        for (int i = -1; i < 10; i++) {
            Check.due("static " + i, i >= 0 && i < 8 ? i + 10 : 0, x.getStatic(i));
        }
        Check.due("static min", 0, x.getStatic(Integer.MIN_VALUE));
        Check.due("static max", 0, x.getStatic(Integer.MAX_VALUE));
        Check.due("no heap yet", 0, x.heap(-1));
        x.run(2);
        Check.due("heap", 3, x.heap(-1));
        x.run(5);
        x.run(2);
        Check.due("an array of none takes 1", 4, x.heap(-1));
        Check.due("and lies behind", 3, x.stack(0));
        x.run(3);
        Check.due("the third", 4, x.stack(0));
        Check.finish(x);
        Check.due("done", 2, x.state());
        int[] heap = {2, 0, 9, 0, 1, 0};
        for (int k = 0; k < 130; k++) {
            Check.due("heap " + k, k < heap.length ? heap[k] : 0, x.heap(k));
        }
        Check.due("heap taken", 6, x.heap(-1));
        Check.due("heap -2", 0, x.heap(-2));
        Check.due("heap min", 0, x.heap(Integer.MIN_VALUE));
        Check.due("heap max", 0, x.heap(Integer.MAX_VALUE));
        Check.due("statics stay behind the end", 17, x.getStatic(7));
        x.start(0);
        Check.due("statics are 0", 0, x.getStatic(7));
        Check.due("heap is empty", 0, x.heap(-1));
        Check.due("nothing is there yet", 0, x.heap(2));
        x.run(18);
        Check.due("a new array of zeros", 0, x.heap(2));
    }

    /** A method of two arguments that is tried with and without a handler. */
    private static void trapOf(String what, int state, int a, int b, int... bytes) {
        FrameWalk x = Check.fed(bytes);
        Check.feed(x, 3, 172, 172);
        x.method(bytes.length + 3, 2, 2, 4, true);
        FrameWalk caught = Check.fed(bytes);
        Check.feed(caught, 3, 172, 172);
        caught.method(bytes.length + 3, 2, 2, 4, true);
        caught.handler(0, bytes.length, bytes.length + 2, 0);
        x.verify();
        caught.verify();
        Check.start(x, 0, a, b);
        Check.start(caught, 0, a, b);
        Check.finish(x);
        Check.finish(caught);
        Check.due(what + ": state", state, x.state());
        Check.due(what + ": depth", 0, x.depth());
        Check.due(what + ": result", 0, x.result());
        boolean isTrap = state >= 3 && state <= 6;
        Check.due(what + ": state with a handler", isTrap ? 2 : state, caught.state());
        Check.due(what + ": kind", isTrap ? state - 2 : 0, caught.result());
    }

    private static void traps() {
        trapOf("1 / 0", 3, 1, 0, 26, 27, 108, 87);
        trapOf("1 % 0", 3, 1, 0, 26, 27, 112, 87);
        trapOf("0 / 1", 2, 0, 1, 26, 27, 108, 87);
        trapOf("0 % 1", 2, 0, 1, 26, 27, 112, 87);
        trapOf("0 / 0", 3, 0, 0, 26, 27, 108, 87);
        trapOf("null[0]", 4, 0, 0, 1, 26, 46, 87);
        trapOf("null[-1]", 4, -1, 0, 1, 26, 46, 87);
        trapOf("null[0] = 0", 4, 0, 0, 1, 26, 27, 79);
        trapOf("null[-1] = 0", 4, -1, 0, 1, 26, 27, 79);
        trapOf("null's length", 4, 0, 0, 1, 190, 87);
        int[][] indices = {{3, 0, 2}, {3, 2, 2}, {3, 3, 5}, {3, -1, 5}, {0, 0, 5}, {3, Integer.MAX_VALUE, 5},
            {3, Integer.MIN_VALUE, 5}, {1, 0, 2}, {1, 1, 5}};
        for (int[] i : indices) {
            trapOf("new[" + i[0] + "][" + i[1] + "]", i[2], i[0], i[1], 26, 188, 10, 27, 46, 87);
            trapOf("new[" + i[0] + "][" + i[1] + "] = 5", i[2], i[0], i[1], 26, 188, 10, 27, 8, 79);
        }
        trapOf("new[-1]", 6, -1, 0, 26, 188, 10, 87);
        trapOf("new[min]", 6, Integer.MIN_VALUE, 0, 26, 188, 10, 87);
        trapOf("new[119]", 2, 119, 0, 26, 188, 10, 87);
        trapOf("new[120]", 8, 120, 0, 26, 188, 10, 87);
        trapOf("new[max]", 8, Integer.MAX_VALUE, 0, 26, 188, 10, 87);
        trapOf("new[119], new[0]", 8, 119, 0, 26, 188, 10, 87, 27, 188, 10, 87);
        trapOf("new[118], new[0]", 2, 118, 0, 26, 188, 10, 87, 27, 188, 10, 87);
        trapOf("new[100], new[18]", 2, 100, 18, 26, 188, 10, 87, 27, 188, 10, 87);
        trapOf("new[100], new[19]", 8, 100, 19, 26, 188, 10, 87, 27, 188, 10, 87);
        trapOf("new[119], new[-1]", 6, 119, -1, 26, 188, 10, 87, 27, 188, 10, 87);
        trapOf("new[60], new[max]", 8, 60, Integer.MAX_VALUE, 26, 188, 10, 87, 27, 188, 10, 87);
    }

    private static void room() {
        // A method that calls itself for ever: how many frames fit.
        for (int locals = 0; locals <= 8; locals++) {
            for (int height = 0; height <= 8; height++) {
                FrameWalk x = verified(Check.one(0, locals, height, false, 184, 0, 0, 177));
                x.start(0);
                int fit = 80 / (locals + height + 1);
                String what = "locals " + locals + ", HEIGHT " + height;
                Check.due(what, fit - 1, () -> x.run(fit - 1));
                Check.due(what + ": depth", fit, x.depth());
                Check.due(what + ": the last frame", 0, x.frame(fit - 1, 0));
                Check.due(what + ": none behind it", -1, x.frame(fit, 0));
                Check.due(what + ": the one that finds no room", 1, () -> x.run(5));
                Check.due(what + ": state", 7, x.state());
                Check.due(what + ": no frames", 0, x.depth());
            }
        }
        // 8 frames of 9 and one of 8 are full; one of 9 more does not fit. No handler is looked for.
        FrameWalk exact = nested(8);
        exact.start(0);
        Check.finish(exact);
        Check.due("80 cells", 2, exact.state());
        Check.due("their result", 5, exact.result());
        FrameWalk over = nested(9);
        over.start(0);
        Check.finish(over);
        Check.due("81 cells", 7, over.state());
        Check.due("no result", 0, over.result());

        FrameWalk kept = verified(Check.one(0, 0, 1, false, 8, 179, 0, 0, 8, 188, 10, 87, 184, 0, 0, 177));
        kept.start(0);
        Check.finish(kept);
        Check.due("20 arrays of 5", 8, kept.state());
        Check.due("statics stay", 5, kept.getStatic(0));
        Check.due("heap stays", 120, kept.heap(-1));
        Check.due("the last cell", 0, kept.heap(119));
        Check.due("the last array", 5, kept.heap(114));
    }

    /** Frames of 17, 17, 17, 17, and then of 4 and of as many cells as told. */
    private static FrameWalk nested(int last) {
        FrameWalk x = new FrameWalk();
        for (int m = 1; m <= 5; m++) {
            Check.feed(x, 184, 0, m, 172, 172);
        }
        Check.feed(x, 8, 172);
        for (int m = 0; m < 4; m++) {
            x.method(5, 0, 8, 8, true);
            x.handler(0, 3, 4, 0);
        }
        x.method(5, 0, 2, 1, true);
        x.method(2, 0, last - 2, 1, true);
        x.verify();
        return x;
    }

    private static FrameWalk divides(int[]... handlers) {
        // 0 26; 1 27; 2 108; 3 172; 4 87 2 172; 7 87 4 172; 10 172.
        FrameWalk x = Check.one(2, 2, 3, true, 26, 27, 108, 172, 87, 2, 172, 87, 4, 172, 172);
        for (int[] h : handlers) {
            x.handler(h[0], h[1], h[2], h[3]);
        }
        return verified(x);
    }

    private static void caught(String what, int state, int result, FrameWalk x) {
        Check.start(x, 0, 7, 0);
        Check.finish(x);
        Check.due(what + ": state", state, x.state());
        Check.due(what + ": result", result, x.result());
    }

    private static void handlersInOrder() {
        caught("none", 3, 0, divides());
        caught("kind 1", 2, 1, divides(new int[] {2, 3, 10, 1}));
        caught("kind 0", 2, 1, divides(new int[] {2, 3, 10, 0}));
        for (int kind = 2; kind <= 4; kind++) {
            caught("kind " + kind, 3, 0, divides(new int[] {0, 4, 10, kind}));
            caught("kind " + kind + ", then 1", 2, -1, divides(new int[] {0, 4, 10, kind}, new int[] {0, 4, 4, 1}));
        }
        caught("before", 3, 0, divides(new int[] {0, 2, 10, 0}));
        caught("behind", 3, 0, divides(new int[] {3, 4, 10, 0}));
        caught("from 1", 2, 1, divides(new int[] {1, 4, 10, 0}));
        caught("up to the end", 2, 1, divides(new int[] {2, 11, 10, 0}));
        caught("the first of two", 2, -1, divides(new int[] {0, 4, 4, 0}, new int[] {0, 4, 7, 1}));
        caught("the first of two, the other way", 2, 1, divides(new int[] {0, 4, 7, 1}, new int[] {0, 4, 4, 0}));
        caught("the fourth", 2, -1, divides(new int[] {0, 1, 7, 0}, new int[] {0, 4, 7, 2},
                new int[] {3, 4, 7, 0}, new int[] {2, 3, 4, 1}));

        FrameWalk seen = Check.one(2, 3, 4, true, 3, 4, 61, 26, 27, 112, 172, 167, 0, 0);
        seen.handler(5, 6, 7, 0);
        seen.verify();
        Check.start(seen, 0, 7, 0);
        Check.due("the step that traps counts", 6, () -> seen.run(6));
        Check.due("running", 1, seen.state());
        Check.due("at the target", 7, seen.frame(0, 1));
        Check.due("the stack is empty but for", 1, seen.frame(0, 2));
        Check.due("the kind", 1, seen.stack(0));
        Check.due("locals stay", 1, seen.local(2));
        Check.due("and go on", 1, () -> seen.run(1));
    }

    private static void handlersOfCallers() {
        // 0: 8, call 1, 172; at 5 the target: 172. 1: call 2, 177. 2: -1, new, pop, 177.
        int[] bytes = {8, 184, 0, 1, 172, 172, 184, 0, 2, 177, 2, 188, 10, 87, 177};
        for (int kind = 0; kind <= 4; kind++) {
            for (int from = 0; from <= 4; from++) {
                if (from == 2 || from == 3) {
                    continue;
                }
                FrameWalk x = Check.fed(bytes);
                x.method(6, 0, 0, 3, true);
                x.handler(from, from == 0 ? 1 : from == 1 ? 4 : 5, 5, kind);
                x.method(4, 0, 0, 1, false);
                x.method(5, 0, 0, 1, false);
                x.verify();
                x.start(0);
                boolean isCaught = from == 1 && (kind == 0 || kind == 4);
                String what = "from " + from + ", kind " + kind;
                Check.due(what + ": run", 5, () -> x.run(5));
                Check.due(what + ": state", isCaught ? 1 : 6, x.state());
                Check.due(what + ": depth", isCaught ? 1 : 0, x.depth());
                Check.due(what + ": place", isCaught ? 5 : -1, x.frame(0, 1));
                Check.due(what + ": stack", isCaught ? 1 : -1, x.frame(0, 2));
                Check.due(what + ": kind", isCaught ? 4 : 0, x.stack(0));
                x.run(9);
                Check.due(what + ": result", isCaught ? 4 : 0, x.result());
            }
        }
        // The nearer frame's handler comes first; the cells of those above are free again.
        FrameWalk near = Check.fed(3, 184, 0, 1, 172, 172, 3, 3, 108, 172, 87, 184, 0, 1, 172);
        near.method(6, 0, 0, 2, true);
        near.handler(1, 4, 5, 0);
        near.method(9, 0, 0, 2, true);
        near.handler(2, 3, 4, 1);
        Check.due("verify", 4 + 7, () -> near.verify());
        near.start(0);
        near.run(5);
        Check.due("the nearer one", 2, near.depth());
        Check.due("its target", 4, near.frame(0, 1));
        Check.due("the caller stays at the call", 1, near.frame(1, 1));
        Check.finish(near);
        Check.due("till there is no room, which no handler takes", 7, near.state());
    }
}
