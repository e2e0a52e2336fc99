/** Promises 1 to 4, 7 and 8: a new object, what is told to it, and clear. */
public final class BuildTest {
    public static void main(String[] args) {
        newObject("new object", new FrameWalk());
        feed();
        feedWhenVerified();
        methodNumbers();
        methodLength();
        methodCount();
        handler();
        clear();
        argument();
        Check.end("BuildTest");
    }

    private static void newObject(String name, FrameWalk x) {
        Check.due(name + ": NONE", -1, FrameWalk.NONE);
        Check.due(name + ": state", 0, x.state());
        Check.due(name + ": fault", -1, x.fault());
        Check.due(name + ": result", 0, x.result());
        Check.due(name + ": depth", 0, x.depth());
        Check.due(name + ": frame", -1, x.frame(0, 0));
        Check.due(name + ": local", 0, x.local(0));
        Check.due(name + ": stack", 0, x.stack(0));
        Check.due(name + ": heap(-1)", 0, x.heap(-1));
        Check.due(name + ": heap(0)", 0, x.heap(0));
        Check.due(name + ": heap(1)", 0, x.heap(1));
        Check.due(name + ": type", -1, x.type(0, 0, 0));
        for (int i = -1; i <= 8; i++) {
            Check.due(name + ": static " + i, 0, x.getStatic(i));
        }
        Check.due(name + ": run", 0, () -> x.run(100));
        Check.due(name + ": verify", Check.STATE, () -> x.verify());
        Check.due(name + ": start", Check.ARGUMENT, () -> x.start(0));
        Check.due(name + ": handler", false, x.handler(0, 1, 0, 0));
        Check.due(name + ": method", Check.ARGUMENT, () -> x.method(1, 0, 0, 0, false));
        Check.due(name + ": the first byte", 1, () -> x.feed(177));
    }

    private static void feed() {
        FrameWalk x = new FrameWalk();
        for (int i = 1; i <= 200; i++) {
            int count = i;
            Check.due("feed " + i, count, () -> x.feed(177));
        }
        Check.due("feed 201", Check.STATE, () -> x.feed(177));
        Check.due("feed 201 again", Check.STATE, () -> x.feed(0));
        Check.due("a method of 200", 0, () -> x.method(200, 0, 0, 0, false));
        Check.due("feed 201 behind a method", Check.STATE, () -> x.feed(0));
        Check.due("verify 200 bytes", 1, () -> x.verify());

        FrameWalk low = Check.one(0, 0, 1, true, 256 + 16, -1, 0x7fffff00 + 172);
        Check.due("lowest eight bits: verify", 2, () -> low.verify());
        Check.start(low, 0);
        Check.finish(low);
        Check.due("lowest eight bits: result", -1, low.result());
    }

    private static void feedWhenVerified() {
        FrameWalk x = Check.one(0, 0, 0, false, 177);
        Check.due("feed behind a method", 2, () -> x.feed(177));
        x.verify();
        Check.due("feed when verified", Check.STATE, () -> x.feed(177));
        Check.due("method when verified", Check.STATE, () -> x.method(1, 0, 0, 0, false));
        Check.due("method when verified, wrong length", Check.ARGUMENT, () -> x.method(2, 0, 0, 0, false));
        Check.due("handler when verified", false, x.handler(0, 1, 0, 0));

        FrameWalk refused = Check.one(0, 0, 0, false, 0);
        Check.due("verify refuses", Check.ARGUMENT, () -> refused.verify());
        Check.due("feed after that", 2, () -> refused.feed(177));
        Check.due("method after that", 1, () -> refused.method(1, 0, 0, 0, false));
        Check.due("handler after that", true, refused.handler(0, 1, 0, 0));
    }

    private static void methodNumbers() {
        int[][] wrong = {
            {1, -1, 0, 0}, {1, 5, 8, 0}, {1, 2, 1, 0}, {1, 0, -1, 0}, {1, 0, 9, 0}, {1, 4, 9, 0},
            {1, 0, 0, -1}, {1, 0, 0, 9}, {0, 0, 0, 0}, {-1, 0, 0, 0}, {3, 0, 0, 0},
            {Integer.MIN_VALUE, 0, 0, 0}, {Integer.MAX_VALUE, 0, 0, 0},
            {1, Integer.MIN_VALUE, 0, 0}, {1, 0, Integer.MAX_VALUE, 0}, {1, 0, 0, Integer.MAX_VALUE},
        };
        for (int[] w : wrong) {
            FrameWalk x = Check.fed(177, 177);
            Check.due("method " + java.util.Arrays.toString(w), Check.ARGUMENT,
                    () -> x.method(w[0], w[1], w[2], w[3], false));
            Check.due("no method was made", false, x.handler(0, 1, 0, 0));
        }
        int[][] right = {{1, 0, 0, 0}, {1, 4, 4, 0}, {1, 4, 8, 8}, {2, 0, 8, 8}, {1, 1, 1, 1}};
        for (int[] r : right) {
            FrameWalk x = Check.fed(177, 177);
            Check.due("method " + java.util.Arrays.toString(r), 0, () -> x.method(r[0], r[1], r[2], r[3], true));
        }
    }

    private static void methodLength() {
        FrameWalk x = Check.fed(177, 3, 87, 177, 4);
        Check.due("of 5 bytes, 1", 0, () -> x.method(1, 0, 0, 0, false));
        Check.due("of 4 bytes, 5", Check.ARGUMENT, () -> x.method(5, 0, 0, 0, false));
        Check.due("of 4 bytes, 3", 1, () -> x.method(3, 0, 0, 1, false));
        Check.due("of 1 byte, 2", Check.ARGUMENT, () -> x.method(2, 0, 0, 0, false));
        Check.due("bytes of no method are not looked at", 4, () -> x.verify());
        Check.start(x, 1);
        Check.due("the second method lies behind the first", 3, () -> x.run(100));
    }

    private static void methodCount() {
        FrameWalk x = Check.fed(177, 177, 177, 177, 177, 177, 177, 177, 177);
        for (int m = 0; m < 8; m++) {
            int number = m;
            Check.due("method " + m, number, () -> x.method(1, 0, 0, 0, false));
        }
        Check.due("method 8", Check.STATE, () -> x.method(1, 0, 0, 0, false));
        Check.due("method 8 with wrong numbers", Check.ARGUMENT, () -> x.method(1, 0, 0, 9, false));
        Check.due("method 8 with a wrong length", Check.ARGUMENT, () -> x.method(2, 0, 0, 0, false));
        Check.due("8 methods", 8, () -> x.verify());
        Check.due("start 7", true, () -> x.start(7));
        Check.due("start 8", Check.ARGUMENT, () -> x.start(8));
        Check.due("start -1", Check.ARGUMENT, () -> x.start(-1));
    }

    private static void handler() {
        FrameWalk x = Check.fed(177, 177);
        Check.due("handler without a method", false, x.handler(0, 1, 0, 0));
        x.method(1, 0, 0, 1, false);
        int[] any = {Integer.MIN_VALUE, -1, 0, Integer.MAX_VALUE};
        for (int v : any) {
            Check.due("handler with " + v, true, x.handler(v, v, v, v));
        }
        Check.due("a fifth handler", false, x.handler(0, 1, 0, 0));
        x.method(1, 0, 0, 1, false);
        Check.due("a first one of the next method", true, x.handler(0, 1, 0, 0));
        Check.due("any numbers are told, but not right", Check.ARGUMENT, () -> x.verify());
        Check.due("in the first method", 0, x.fault());
    }

    private static void clear() {
        FrameWalk x = Check.fed(8, 188, 10, 87, 8, 179, 0, 0, 4, 172);
        x.method(10, 1, 1, 1, true);
        x.handler(0, 1, 9, 0);
        x.verify();
        Check.start(x, 0, 7);
        x.run(5);
        x.argument(3);
        Check.due("before clear: static", 5, x.getStatic(0));
        Check.due("before clear: heap", 6, x.heap(-1));
        Check.due("before clear: depth", 1, x.depth());
        x.clear();
        newObject("cleared when running", x);

        x.clear();
        Check.feed(x, 8, 172);
        x.method(2, 0, 0, 1, true);
        Check.due("no handlers of before", 2, () -> x.verify());
        Check.due("no arguments of before", true, () -> x.start(0));
        Check.finish(x);
        Check.due("it is done", 2, x.state());
        x.clear();
        newObject("cleared when done", x);

        FrameWalk refused = Check.one(0, 0, 0, false, 0);
        Check.due("refused", Check.ARGUMENT, () -> refused.verify());
        Check.due("its fault", 0, refused.fault());
        refused.clear();
        newObject("cleared when refused", refused);

        FrameWalk full = new FrameWalk();
        for (int i = 0; i < 200; i++) {
            full.feed(177);
        }
        full.clear();
        Check.due("200 bytes are gone", 1, () -> full.feed(177));
    }

    private static void argument() {
        FrameWalk x = Check.one(4, 4, 0, false, 177);
        for (int v = 1; v <= 4; v++) {
            Check.due("argument " + v, true, x.argument(10 * v));
        }
        Check.due("argument 5", false, x.argument(50));
        x.verify();
        Check.due("argument 5 when verified", false, x.argument(60));
        x.start(0);
        for (int n = 0; n < 4; n++) {
            Check.due("local " + n, 10 * (n + 1), x.local(n));
        }
        Check.due("used up", Check.ARGUMENT, () -> x.start(0));
        for (int v = 1; v <= 4; v++) {
            Check.due("while it is running, argument " + v, true, x.argument(-v));
        }
        Check.due("and a fifth", false, x.argument(0));
        Check.due("the running frame has its own", 10, x.local(0));
        x.start(0);
        Check.due("in the order in which they came", -4, x.local(3));
    }
}
