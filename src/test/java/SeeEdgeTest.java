/** Promises 9 to 19: each sentence that refuses, throws or answers at a limit, on both sides of it. */
public final class SeeEdgeTest {
    private static final int MIN = Integer.MIN_VALUE;
    private static final int MAX = Integer.MAX_VALUE;

    public static void main(String[] args) {
        Check.sentence("9: The machine is running, in method m, with the arguments given", SeeEdgeTest::started);
        Check.sentence("9: which are used up", SeeEdgeTest::usedUp);
        Check.sentence("9: statics are 0, the heap is empty: true", SeeEdgeTest::startEmpties);
        Check.sentence("9: (Also if it was running: that is gone.)", SeeEdgeTest::startWhenRunning);
        Check.sentence("9: IllegalArgumentException if there is no such method", SeeEdgeTest::noSuchMethod);
        Check.sentence("9: or it has not as many", SeeEdgeTest::notAsMany);
        Check.sentence("9: IllegalStateException if it is not verified", SeeEdgeTest::notVerified);
        Check.sentence("9: (The one named first, if both hold", SeeEdgeTest::startBoth);
        Check.sentence("9: the arguments stay then.)", SeeEdgeTest::argumentsStay);
        Check.sentence("10: Up to n steps, as long as it is running: how many", SeeEdgeTest::upToSteps);
        Check.sentence("10: (The one that traps, or finds no room, counts.)", SeeEdgeTest::lastStepCounts);
        Check.sentence("10: IllegalArgumentException if n is not 0 .. 100", SeeEdgeTest::runLimits);
        Check.sentence("11: 0 to 8, as said", SeeEdgeTest::states);
        Check.sentence("12: The int that the first method gave, if it is done and gave one; else 0",
                SeeEdgeTest::results);
        Check.sentence("13: How many frames there are", SeeEdgeTest::depths);
        Check.sentence("13: (0 if it is not running)", SeeEdgeTest::depthBehindTheEnd);
        Check.sentence("13: (So none of it is seen behind its end; statics and heap stay till the next start.)",
                SeeEdgeTest::seenBehindTheEnd);
        Check.sentence("14: Of frame k, 0 being the latest", SeeEdgeTest::frameNumbers);
        Check.sentence("14: 0: its method, 1: the place of its next instruction (of the call, if it is not the "
                + "latest), 2: how many are on its stack", SeeEdgeTest::frameParts);
        Check.sentence("14: NONE if there is no such frame or what", SeeEdgeTest::noSuchFrame);
        Check.sentence("15: Local n of the latest frame; 0 if there is none", SeeEdgeTest::localLimits);
        Check.sentence("16: What is k below the top of the latest frame's stack; 0 if there is none",
                SeeEdgeTest::stackLimits);
        Check.sentence("17: A static; 0 if there is none", SeeEdgeTest::staticLimits);
        Check.sentence("18: Cell k of the heap (an array's length, then its ints)", SeeEdgeTest::heapCells);
        Check.sentence("18: 0 if nothing is there yet", SeeEdgeTest::heapLimits);
        Check.sentence("18: How many are taken if k is -1", SeeEdgeTest::heapTaken);
        Check.sentence("19: if it was verified", SeeEdgeTest::typesWhenVerified);
        Check.sentence("19: for k from 0 on its locals, then its stack from below: 0 NONE, 1 INT, 2 REF",
                SeeEdgeTest::typesInOrder);
        Check.sentence("19: NONE (-1) if there is no instruction with a state", SeeEdgeTest::typesWithoutState);
        Check.sentence("19: or no such k", SeeEdgeTest::typeNumbers);
        Check.end("SeeEdgeTest");
    }

    /** Five methods that do not end, method a with a arguments. */
    private static FrameWalk byArguments() {
        FrameWalk x = new FrameWalk();
        for (int a = 0; a <= 4; a++) {
            Check.feed(x, 167, 0, 0);
            x.method(3, a, 8, 0, false);
        }
        return x;
    }

    private static void started() {
        FrameWalk x = Check.verified(byArguments());
        for (int a = 0; a <= 4; a++) {
            for (int v = 0; v < a; v++) {
                x.argument(10 * a + v);
            }
            int m = a;
            Check.due("start(" + a + ")", true, () -> x.start(m));
            Check.due("state of " + a, 1, x.state());
            Check.due("frames of " + a, 1, x.depth());
            Check.due("method of " + a, a, x.frame(0, 0));
            Check.due("place of " + a, 0, x.frame(0, 1));
            Check.due("stack of " + a, 0, x.frame(0, 2));
            for (int n = 0; n < 8; n++) {
                Check.due("local " + n + " of " + a, n < a ? 10 * a + n : 0, x.local(n));
            }
        }
    }

    private static void usedUp() {
        FrameWalk x = Check.verified(byArguments());
        Check.start(x, 4, 1, 2, 3, 4);
        Check.due("the same again", Check.ARGUMENT, () -> x.start(4));
        Check.due("one without arguments", true, () -> x.start(0));
        for (int v = 1; v <= 4; v++) {
            Check.due("argument " + v + " has room", true, x.argument(-v));
        }
        Check.due("the same with new ones", true, () -> x.start(4));
        Check.due("the first of the new ones", -1, x.local(0));
    }

    /** Sets statics 0 and 7, makes an array of the first argument with 5 in its last cell, divides by the second. */
    private static FrameWalk busy() {
        FrameWalk x = Check.fed(8, 179, 0, 0, 7, 179, 0, 7, 26, 188, 10, 89, 26, 4, 100, 8, 79, 87, 8, 27, 108, 172);
        x.method(22, 2, 2, 4, true);
        return Check.verified(x);
    }

    private static void startEmpties() {
        // Before the next start it was done, trapped, out of room, or running.
        int[][] ways = {{3, 1, 100}, {3, 0, 100}, {0, 1, 100}, {119, 1, 100}, {120, 1, 100}, {-1, 1, 100}, {3, 1, 14}};
        for (int[] way : ways) {
            FrameWalk x = busy();
            Check.start(x, 0, way[0], way[1]);
            x.run(way[2]);
            Check.due("static 0 before", 5, x.getStatic(0));
            Check.due("static 7 before", 4, x.getStatic(7));
            x.argument(1);
            x.argument(1);
            Check.due("start", true, () -> x.start(0));
            for (int i = 0; i < 8; i++) {
                Check.due("static " + i, 0, x.getStatic(i));
            }
            for (int k = -1; k < 120; k++) {
                Check.due("heap " + k, 0, x.heap(k));
            }
        }
        FrameWalk full = Check.verified(Check.one(1, 1, 1, true, 26, 188, 10, 190, 172));
        for (int i = 0; i < 3; i++) {
            Check.due("all of the heap, time " + i, "gives 119", Check.outcome(full, 119));
        }
    }

    private static void startWhenRunning() {
        // Method 0 calls itself with one less, for ever; method 1 ends.
        FrameWalk x = Check.fed(26, 4, 100, 184, 0, 0, 177, 177);
        x.method(7, 1, 2, 2, false);
        x.method(1, 0, 0, 0, false);
        x.verify();
        Check.start(x, 0, 50);
        x.run(10);
        Check.due("frames before", 3, x.depth());
        x.argument(60);
        Check.due("start", true, () -> x.start(0));
        Check.due("frames", 1, x.depth());
        Check.due("local 0", 60, x.local(0));
        Check.due("place", 0, x.frame(0, 1));
        Check.due("stack", 0, x.frame(0, 2));
        Check.due("no frame below", -1, x.frame(1, 0));
        x.run(9);
        Check.due("start of another", true, () -> x.start(1));
        Check.due("its frames", 1, x.depth());
        Check.due("its end is the end", 1, () -> x.run(100));
        Check.due("state", 2, x.state());
        for (int i = 0; i < 20; i++) {
            Check.start(x, 0, 1);
            Check.due("each start has all the cells", 60, () -> x.run(60));
            Check.due("frames", 16, x.depth());
        }
    }

    private static void noSuchMethod() {
        for (int count = 1; count <= 8; count++) {
            FrameWalk x = Check.fed(177, 177, 177, 177, 177, 177, 177, 177);
            for (int m = 0; m < count; m++) {
                x.method(1, 0, 0, 0, false);
            }
            x.verify();
            int last = count - 1;
            Check.due("the last of " + count, true, () -> x.start(last));
            Check.due("behind the last of " + count, Check.ARGUMENT, () -> x.start(last + 1));
            Check.due("-1 of " + count, Check.ARGUMENT, () -> x.start(-1));
            Check.due("the lowest", Check.ARGUMENT, () -> x.start(MIN));
            Check.due("the highest", Check.ARGUMENT, () -> x.start(MAX));
            Check.due("it goes on with the last", last, x.frame(0, 0));
        }
    }

    private static void notAsMany() {
        for (int given = 0; given <= 4; given++) {
            for (int a = 0; a <= 4; a++) {
                FrameWalk x = Check.verified(byArguments());
                for (int v = 0; v < given; v++) {
                    x.argument(v);
                }
                int m = a;
                Check.due(given + " for " + a, given == a ? true : Check.ARGUMENT, () -> x.start(m));
                Check.due(given + " for " + a + ": state", given == a ? 1 : 0, x.state());
            }
        }
    }

    private static void notVerified() {
        FrameWalk x = byArguments();
        Check.due("before", Check.STATE, () -> x.start(0));
        Check.due("idle", 0, x.state());
        Check.due("no steps", 0, () -> x.run(100));
        x.verify();
        Check.due("verified", true, () -> x.start(0));
        FrameWalk refused = Check.fed(177, 0);
        refused.method(1, 0, 0, 0, false);
        refused.method(1, 0, 0, 0, false);
        Check.due("verify that throws", Check.ARGUMENT, () -> refused.verify());
        Check.due("a method that is right", Check.STATE, () -> refused.start(0));
        Check.due("one that is not", Check.STATE, () -> refused.start(1));
    }

    private static void startBoth() {
        FrameWalk x = byArguments();
        Check.due("no such method", Check.ARGUMENT, () -> x.start(5));
        Check.due("no such method, -1", Check.ARGUMENT, () -> x.start(-1));
        Check.due("too few", Check.ARGUMENT, () -> x.start(1));
        Check.due("as many", Check.STATE, () -> x.start(0));
        x.argument(1);
        Check.due("too many", Check.ARGUMENT, () -> x.start(0));
        Check.due("as many as it has", Check.STATE, () -> x.start(1));
        FrameWalk none = new FrameWalk();
        Check.due("no method at all", Check.ARGUMENT, () -> none.start(0));
    }

    private static void argumentsStay() {
        FrameWalk x = byArguments();
        x.argument(31);
        x.argument(32);
        Check.due("not verified", Check.STATE, () -> x.start(2));
        Check.due("not as many", Check.ARGUMENT, () -> x.start(3));
        Check.due("no such method", Check.ARGUMENT, () -> x.start(5));
        x.verify();
        Check.due("too many", Check.ARGUMENT, () -> x.start(1));
        Check.due("too few", Check.ARGUMENT, () -> x.start(3));
        Check.due("no such method, verified", Check.ARGUMENT, () -> x.start(-1));
        Check.due("as many", true, () -> x.start(2));
        Check.due("the first", 31, x.local(0));
        Check.due("the second", 32, x.local(1));
        x.argument(41);
        Check.due("not as many, running", Check.ARGUMENT, () -> x.start(2));
        Check.due("what was running goes on", 31, x.local(0));
        x.argument(42);
        Check.due("one more", true, () -> x.start(2));
        Check.due("the first that stayed", 41, x.local(0));
        Check.due("the one behind it", 42, x.local(1));
    }

    /** As many steps as are told, the last of which ends it. */
    private static FrameWalk ofSteps(int steps) {
        FrameWalk x = new FrameWalk();
        for (int i = 1; i < steps; i++) {
            x.feed(i == 1 ? 3 : 116);
        }
        x.feed(177);
        x.method(steps, 0, 0, 1, false);
        return Check.verified(x);
    }

    private static void upToSteps() {
        for (int n : new int[] {1, 2, 50, 99, 100}) {
            FrameWalk exact = ofSteps(n);
            Check.due("idle", 0, () -> exact.run(n));
            exact.start(0);
            Check.due("none", 0, () -> exact.run(0));
            Check.due("nothing happens", 0, exact.frame(0, 1));
            Check.due(n + " of " + n, n, () -> exact.run(n));
            Check.due("done", 2, exact.state());
            Check.due("no more", 0, () -> exact.run(n));
            FrameWalk longer = ofSteps(n + 1);
            longer.start(0);
            Check.due(n + " of one more", n, () -> longer.run(n));
            Check.due("running", 1, longer.state());
            Check.due("the place", n, longer.frame(0, 1));
            Check.due("the last", 1, () -> longer.run(n));
            Check.due("done then", 2, longer.state());
        }
        FrameWalk shorter = ofSteps(99);
        shorter.start(0);
        Check.due("100 of 99", 99, () -> shorter.run(100));
    }

    private static void lastStepCounts() {
        int[][] codes = {
            {4, 3, 108, 87, 177}, {4, 3, 112, 87, 177}, {1, 3, 46, 87, 177}, {3, 188, 10, 3, 46, 87, 177},
            {2, 188, 10, 87, 177}, {184, 0, 0, 177}, {17, 0, 120, 188, 10, 87, 177},
        };
        int[] steps = {3, 3, 3, 4, 2, 16, 2};
        int[] states = {3, 3, 4, 5, 6, 7, 8};
        for (int i = 0; i < codes.length; i++) {
            FrameWalk x = Check.verified(Check.one(0, 2, 2, false, codes[i]));
            int due = steps[i];
            x.start(0);
            Check.due("one before it, state " + states[i], due - 1, () -> x.run(due - 1));
            Check.due("still running, state " + states[i], 1, x.state());
            Check.due("it counts, state " + states[i], 1, () -> x.run(100));
            Check.due("state", states[i], x.state());
            Check.due("none behind it", 0, () -> x.run(100));
            x.start(0);
            Check.due("all at once, state " + states[i], due, () -> x.run(100));
        }
        FrameWalk caught = Check.one(0, 0, 2, true, 4, 3, 108, 172, 172);
        caught.handler(2, 3, 4, 0);
        caught.verify();
        caught.start(0);
        Check.due("one that is caught counts too", 4, () -> caught.run(100));
    }

    private static void runLimits() {
        FrameWalk x = Check.verified(Check.one(0, 0, 0, false, 167, 0, 0));
        for (int round = 0; round < 2; round++) {
            boolean isRunning = round == 1;
            for (int n : new int[] {MIN, -1, 101, MAX}) {
                Check.due("round " + round + ", run(" + n + ")", Check.ARGUMENT, () -> x.run(n));
            }
            for (int n : new int[] {0, 1, 99, 100}) {
                Check.due("round " + round + ", run(" + n + ")", isRunning ? n : 0, () -> x.run(n));
            }
            x.start(0);
        }
        FrameWalk grows = Check.verified(Check.one(1, 1, 0, false, 132, 0, 1, 167, 255, 253));
        Check.start(grows, 0, 0);
        Check.due("101 makes no step", Check.ARGUMENT, () -> grows.run(101));
        Check.due("it is as it was", 0, grows.local(0));
        Check.due("100", 100, () -> grows.run(100));
        Check.due("and makes them", 50, grows.local(0));
        FrameWalk done = ofSteps(1);
        done.start(0);
        done.run(1);
        Check.due("done, 101", Check.ARGUMENT, () -> done.run(101));
        Check.due("done, -1", Check.ARGUMENT, () -> done.run(-1));
        Check.due("done, 100", 0, () -> done.run(100));
        FrameWalk none = new FrameWalk();
        Check.due("new, 101", Check.ARGUMENT, () -> none.run(101));
        Check.due("new, 100", 0, () -> none.run(100));
    }

    /** A method for each end: 0 done with nothing, 1 done with -7, 2 to 5 trapped, 6 and 7 out of room. */
    private static FrameWalk allEnds() {
        int[][] codes = {
            {8, 177}, {16, 249, 172}, {4, 3, 108, 172}, {1, 190, 172}, {3, 188, 10, 3, 46, 172}, {2, 188, 10, 190, 172},
            {184, 0, 6, 172}, {16, 120, 188, 10, 190, 172},
        };
        FrameWalk x = new FrameWalk();
        for (int m = 0; m < 8; m++) {
            Check.feed(x, codes[m]);
            x.method(codes[m].length, 0, 1, 2, m != 0);
        }
        return Check.verified(x);
    }

    private static void states() {
        Check.due("new", 0, new FrameWalk().state());
        int[] ends = {2, 2, 3, 4, 5, 6, 7, 8};
        FrameWalk x = allEnds();
        Check.due("verified", 0, x.state());
        for (int m = 0; m < 8; m++) {
            x.start(m);
            Check.due("started " + m, 1, x.state());
            x.run(1);
            Check.due("running " + m, 1, x.state());
            x.run(100);
            Check.due("end of " + m, ends[m], x.state());
            Check.due("it stays", ends[m], x.state());
        }
        x.clear();
        Check.due("cleared", 0, x.state());
    }

    private static void results() {
        Check.due("new", 0, new FrameWalk().result());
        FrameWalk x = allEnds();
        for (int m = 0; m < 8; m++) {
            // Method 1 gave an int before each of the others.
            x.start(1);
            x.run(1);
            Check.due("running, the int on the stack", 0, x.result());
            x.run(1);
            Check.due("done", -7, x.result());
            Check.due("again", -7, x.result());
            x.start(m);
            Check.due("started " + m, 0, x.result());
            x.run(100);
            Check.due("end of " + m, m == 1 ? -7 : 0, x.result());
        }
        x.start(1);
        x.run(100);
        Check.due("a refused start leaves it", Check.ARGUMENT, () -> x.start(8));
        Check.due("it is left", -7, x.result());
        x.clear();
        Check.due("cleared", 0, x.result());
        for (int v : new int[] {MIN, -1, 0, 1, MAX}) {
            FrameWalk gives = Check.verified(Check.one(1, 1, 1, true, 26, 172));
            Check.start(gives, 0, v);
            gives.run(2);
            Check.due("gave " + v, v, gives.result());
        }
        // What a called method gave is not what the first gave.
        FrameWalk called = Check.fed(184, 0, 1, 87, 177, 8, 172);
        called.method(5, 0, 0, 1, false);
        called.method(2, 0, 0, 1, true);
        called.verify();
        called.start(0);
        called.run(3);
        Check.due("a called one gave 5: running", 0, called.result());
        called.run(100);
        Check.due("a called one gave 5: done", 0, called.result());
        // 0 16 9; 2 184 1; 5 87; 6 172: the first gives what it had below.
        FrameWalk first = Check.fed(16, 9, 184, 0, 1, 87, 172, 8, 172);
        first.method(7, 0, 0, 2, true);
        first.method(2, 0, 0, 1, true);
        first.verify();
        Check.due("the first gave 9", "gives 9", Check.outcome(first));
    }

    private static void depths() {
        FrameWalk x = Check.verified(Check.one(0, 0, 0, false, 184, 0, 0, 177));
        Check.due("idle", 0, x.depth());
        x.start(0);
        for (int frames = 1; frames < 80; frames++) {
            Check.due("frames", frames, x.depth());
            x.run(1);
        }
        Check.due("the most", 80, x.depth());
        x.run(1);
        Check.due("one more", 0, x.depth());
        FrameWalk back = Check.fed(184, 0, 1, 177, 177);
        back.method(4, 0, 0, 0, false);
        back.method(1, 0, 0, 0, false);
        back.verify();
        back.start(0);
        for (int frames : new int[] {1, 2, 1, 0}) {
            Check.due("there and back", frames, back.depth());
            back.run(1);
        }
    }

    private static void depthBehindTheEnd() {
        Check.due("new", 0, new FrameWalk().depth());
        FrameWalk x = allEnds();
        Check.due("verified", 0, x.depth());
        for (int m = 0; m < 8; m++) {
            x.start(m);
            Check.due("started " + m, 1, x.depth());
            x.run(100);
            Check.due("end of " + m, 0, x.depth());
        }
        x.start(0);
        x.clear();
        Check.due("cleared when running", 0, x.depth());
    }

    private static void seenBehindTheEnd() {
        // By its arguments busy() is done, trapped by 0, trapped by a size, and out of room.
        int[][] ways = {{3, 1, 2}, {3, 0, 3}, {-1, 1, 6}, {119, 0, 3}, {120, 1, 8}};
        for (int[] way : ways) {
            FrameWalk x = busy();
            Check.start(x, 0, way[0], way[1]);
            x.run(100);
            String what = "state " + way[2];
            Check.due(what, way[2], x.state());
            for (int k = -1; k <= 8; k++) {
                Check.due(what + ": frame " + k, -1, x.frame(k, 0));
                Check.due(what + ": frame " + k + ", place", -1, x.frame(k, 1));
                Check.due(what + ": local " + k, 0, x.local(k));
                Check.due(what + ": stack " + k, 0, x.stack(k));
            }
            Check.due(what + ": static 0", 5, x.getStatic(0));
            Check.due(what + ": static 7", 4, x.getStatic(7));
            boolean isMade = way[0] >= 0 && way[0] < 120;
            Check.due(what + ": heap taken", isMade ? way[0] + 1 : 0, x.heap(-1));
            Check.due(what + ": the array's length", isMade ? way[0] : 0, x.heap(0));
            Check.due(what + ": the array's last int", isMade ? 5 : 0, x.heap(Math.max(0, way[0])));
            x.argument(9);
            Check.due(what + ": a start that is refused", Check.ARGUMENT, () -> x.start(0));
            Check.due(what + ": leaves static 0", 5, x.getStatic(0));
            Check.due(what + ": leaves the heap", isMade ? way[0] + 1 : 0, x.heap(-1));
            x.argument(1);
            x.start(0);
            Check.due(what + ": the next start, static 0", 0, x.getStatic(0));
            Check.due(what + ": the next start, heap", 0, x.heap(-1));
        }
    }

    /** Methods 0, 1 and 2 push 1, 2 and 3 ints and call the next; 3 has two arguments and does not end. */
    private static FrameWalk tower() {
        FrameWalk x = Check.fed(3, 184, 0, 1, 177, 3, 3, 184, 0, 2, 177, 3, 3, 3, 184, 0, 3, 177, 3, 167, 0, 0);
        x.method(5, 0, 0, 1, false);
        x.method(6, 0, 1, 2, false);
        x.method(7, 0, 2, 3, false);
        x.method(4, 2, 3, 4, false);
        x.verify();
        x.start(0);
        return x;
    }

    private static void frameNumbers() {
        FrameWalk x = tower();
        int[] steps = {0, 2, 3, 4};
        for (int frames = 1; frames <= 4; frames++) {
            x.run(steps[frames - 1]);
            for (int k = -1; k <= 5; k++) {
                boolean isThere = k >= 0 && k < frames;
                Check.due("frame " + k + " of " + frames, isThere ? frames - 1 - k : -1, x.frame(k, 0));
            }
        }
        FrameWalk most = Check.verified(Check.one(0, 0, 0, false, 184, 0, 0, 177));
        most.start(0);
        most.run(79);
        Check.due("frame 79 of 80", 0, most.frame(79, 0));
        Check.due("frame 80 of 80", -1, most.frame(80, 0));
        Check.due("the place of the last of 80", 0, most.frame(0, 1));
    }

    private static void frameParts() {
        FrameWalk x = tower();
        Check.due("the first place", 0, x.frame(0, 1));
        x.run(1);
        Check.due("the next place", 1, x.frame(0, 1));
        Check.due("one on the stack", 1, x.frame(0, 2));
        x.run(8);
        // Places of the calls: 1, 2 and 3; the latest is at its first.
        for (int k = 0; k < 4; k++) {
            int m = 3 - k;
            Check.due("method of frame " + k, m, x.frame(k, 0));
            Check.due("place of frame " + k, k == 0 ? 0 : m + 1, x.frame(k, 1));
            // The arguments of method 3 are not on its caller's stack any more.
            Check.due("stack of frame " + k, new int[] {0, 1, 2, 1}[k], x.frame(k, 2));
        }
        x.run(1);
        Check.due("the latest goes on", 1, x.frame(0, 1));
        Check.due("with one on its stack", 1, x.frame(0, 2));
        Check.due("the one below does not", 3, x.frame(1, 1));
        FrameWalk full = Check.verified(Check.one(0, 0, 8, false, 3, 3, 3, 3, 3, 3, 3, 3, 167, 0, 0));
        full.start(0);
        for (int high = 0; high <= 8; high++) {
            Check.due("how many", high, full.frame(0, 2));
            full.run(1);
        }
        Check.due("and no more", 8, full.frame(0, 2));
    }

    private static void noSuchFrame() {
        FrameWalk x = tower();
        x.run(9);
        for (int what : new int[] {MIN, -1, 0, 1, 2, 3, MAX}) {
            boolean isWhat = what >= 0 && what <= 2;
            for (int k : new int[] {MIN, -1, 0, 3, 4, MAX}) {
                boolean isFrame = k == 0 || k == 3;
                int[] parts = k == 0 ? new int[] {3, 0, 0} : new int[] {0, 1, 1};
                Check.due("frame(" + k + ", " + what + ")", isWhat && isFrame ? parts[what] : -1, x.frame(k, what));
            }
        }
        FrameWalk none = new FrameWalk();
        for (int what = -1; what <= 3; what++) {
            Check.due("not running, what " + what, -1, none.frame(0, what));
        }
    }

    private static void localLimits() {
        // The cells behind the locals are the stack's: 5 lies there, and is no local.
        for (int locals = 0; locals <= 8; locals++) {
            FrameWalk x = new FrameWalk();
            for (int n = 0; n < locals; n++) {
                Check.feed(x, 16, 70 + n, 54, n);
            }
            Check.feed(x, 8, 167, 0, 0);
            x.method(4 * locals + 4, 0, locals, 1, false);
            x.verify();
            x.start(0);
            x.run(2 * locals + 1);
            for (int n = -1; n <= 10; n++) {
                Check.due("local " + n + " of " + locals, n >= 0 && n < locals ? 70 + n : 0, x.local(n));
            }
            Check.due("the lowest", 0, x.local(MIN));
            Check.due("the highest", 0, x.local(MAX));
        }
        // The caller's locals are not the latest frame's.
        FrameWalk called = Check.fed(26, 184, 0, 1, 177, 167, 0, 0);
        called.method(5, 2, 2, 1, false);
        called.method(3, 1, 1, 0, false);
        called.verify();
        Check.start(called, 0, 33, 44);
        Check.due("before the call", 44, called.local(1));
        called.run(2);
        Check.due("behind it, local 0", 33, called.local(0));
        Check.due("behind it, local 1", 0, called.local(1));
        Check.due("behind it, local -1", 0, called.local(-1));
        Check.due("new", 0, new FrameWalk().local(0));
        FrameWalk ends = Check.verified(Check.one(2, 2, 2, false, 26, 27, 108, 177));
        for (int second = 0; second <= 1; second++) {
            Check.start(ends, 0, 33, second);
            Check.due("started", 33, ends.local(0));
            ends.run(100);
            Check.due("not running", true, ends.state() > 1);
            Check.due("not running: local 0", 0, ends.local(0));
            Check.due("not running: local 1", 0, ends.local(1));
        }
    }

    private static void stackLimits() {
        // What lies below the stack are the locals: they are not on it.
        FrameWalk x = new FrameWalk();
        Check.feed(x, 2, 3, 4, 5, 6, 7, 8, 2, 167, 0, 0);
        x.method(11, 4, 4, 8, false);
        x.verify();
        Check.start(x, 0, 61, 62, 63, 64);
        int[] pushed = {-1, 0, 1, 2, 3, 4, 5, -1};
        for (int high = 0; high <= 8; high++) {
            for (int k = -1; k <= 12; k++) {
                int due = k >= 0 && k < high ? pushed[high - 1 - k] : 0;
                Check.due(k + " below the top of " + high, due, x.stack(k));
            }
            Check.due("the lowest", 0, x.stack(MIN));
            Check.due("the highest", 0, x.stack(MAX));
            x.run(1);
        }
        FrameWalk popped = Check.verified(Check.one(0, 0, 2, false, 8, 7, 87, 87, 167, 0, 0));
        popped.start(0);
        popped.run(3);
        Check.due("behind a pop, the top", 5, popped.stack(0));
        Check.due("behind a pop, -1", 0, popped.stack(-1));
        popped.run(1);
        Check.due("behind both", 0, popped.stack(0));
        FrameWalk called = tower();
        called.run(2);
        Check.due("the latest frame's is empty", 0, called.stack(0));
        Check.due("new", 0, new FrameWalk().stack(0));
        // It ends with 5 and 4 on the stack, or traps with 5 below.
        FrameWalk ends = Check.verified(Check.one(1, 1, 3, false, 8, 7, 26, 108, 177));
        for (int by = 0; by <= 1; by++) {
            Check.start(ends, 0, by);
            ends.run(2);
            Check.due("running: the top", 4, ends.stack(0));
            ends.run(100);
            Check.due("not running", by == 0 ? 3 : 2, ends.state());
            Check.due("not running: the top", 0, ends.stack(0));
            Check.due("not running: below", 0, ends.stack(1));
        }
    }

    private static void staticLimits() {
        FrameWalk x = new FrameWalk();
        for (int i = 0; i < 8; i++) {
            Check.feed(x, 16, 80 + i, 179, 0, i);
        }
        x.feed(177);
        x.method(41, 0, 0, 1, false);
        x.verify();
        Check.due("idle", 0, x.getStatic(0));
        x.start(0);
        x.run(100);
        for (int i = -2; i <= 9; i++) {
            Check.due("static " + i, i >= 0 && i < 8 ? 80 + i : 0, x.getStatic(i));
        }
        Check.due("the lowest", 0, x.getStatic(MIN));
        Check.due("the highest", 0, x.getStatic(MAX));
    }

    /** An array of the argument whose first and last ints are 5, then one of none, then one of 1 with 4 in it. */
    private static FrameWalk arrays(int length) {
        FrameWalk x = Check.fed(26, 188, 10, 76, 43, 26, 4, 100, 8, 79, 43, 3, 8, 79, 3, 188, 10, 87);
        Check.feed(x, 4, 188, 10, 3, 7, 79, 177);
        x.method(25, 1, 2, 4, false);
        x.verify();
        Check.start(x, 0, length);
        return x;
    }

    private static void heapCells() {
        for (int length : new int[] {1, 2, 3, 116}) {
            FrameWalk x = arrays(length);
            x.run(2);
            Check.due("the length of a new one", length, x.heap(0));
            for (int k = 1; k <= length; k++) {
                Check.due("an int of a new one", 0, x.heap(k));
            }
            x.run(100);
            Check.due("state", 2, x.state());
            Check.due("the length", length, x.heap(0));
            for (int k = 1; k <= length; k++) {
                Check.due("cell " + k + " of " + length, k == 1 || k == length ? 5 : 0, x.heap(k));
            }
            Check.due("one of none", 0, x.heap(length + 1));
            Check.due("the length of one of 1", 1, x.heap(length + 2));
            Check.due("its int", 4, x.heap(length + 3));
            Check.due("nothing behind it", 0, x.heap(length + 4));
        }
    }

    private static void heapLimits() {
        // An array of 119 whose last int is 5: then one of 1 in the same cells, behind which nothing is yet.
        FrameWalk x = Check.verified(Check.one(1, 1, 4, false, 26, 188, 10, 26, 4, 100, 8, 79, 177));
        Check.due("idle", 0, x.heap(0));
        Check.start(x, 0, 119);
        Check.due("running, empty", 0, x.heap(0));
        x.run(100);
        Check.due("cell 0", 119, x.heap(0));
        Check.due("cell 118", 0, x.heap(118));
        Check.due("cell 119", 5, x.heap(119));
        for (int k : new int[] {MIN, -2, 120, 121, MAX}) {
            Check.due("cell " + k, 0, x.heap(k));
        }
        Check.start(x, 0, 1);
        Check.due("started: cell 0", 0, x.heap(0));
        Check.due("started: cell 119", 0, x.heap(119));
        x.run(100);
        Check.due("one of 1: cell 0", 1, x.heap(0));
        Check.due("one of 1: cell 1", 5, x.heap(1));
        for (int k = 2; k <= 120; k++) {
            Check.due("one of 1: cell " + k, 0, x.heap(k));
        }
    }

    private static void heapTaken() {
        Check.due("new", 0, new FrameWalk().heap(-1));
        for (int length : new int[] {0, 1, 118, 119, 120, -1}) {
            FrameWalk x = Check.verified(Check.one(1, 1, 1, false, 26, 188, 10, 87, 177));
            Check.start(x, 0, length);
            x.run(1);
            Check.due("before one of " + length, 0, x.heap(-1));
            x.run(1);
            Check.due("behind one of " + length, length >= 0 && length < 120 ? length + 1 : 0, x.heap(-1));
        }
        FrameWalk more = arrays(3);
        more.run(2);
        Check.due("one of 3", 4, more.heap(-1));
        more.run(13);
        Check.due("and one of none", 5, more.heap(-1));
        more.run(3);
        Check.due("and one of 1", 7, more.heap(-1));
        Check.due("-2 is nothing", 0, more.heap(-2));
    }

    private static void typesWhenVerified() {
        FrameWalk x = Check.one(1, 2, 1, false, 26, 177);
        Check.due("before", -1, x.type(0, 0, 0));
        x.verify();
        Check.due("verified", 1, x.type(0, 0, 0));
        Check.due("verified, the second instruction", 1, x.type(0, 1, 2));
        Check.start(x, 0, 1);
        Check.due("running", 1, x.type(0, 0, 0));
        x.run(100);
        Check.due("done", 1, x.type(0, 0, 0));
        x.clear();
        Check.due("cleared", -1, x.type(0, 0, 0));
        Check.feed(x, 26, 177);
        x.method(2, 1, 2, 1, false);
        Check.due("told again", -1, x.type(0, 0, 0));

        FrameWalk refused = Check.fed(26, 177, 87);
        refused.method(2, 1, 2, 1, false);
        refused.method(1, 1, 2, 1, false);
        Check.due("verify that throws", Check.ARGUMENT, () -> refused.verify());
        Check.due("a method that is right", -1, refused.type(0, 0, 0));
    }

    private static void typesInOrder() {
        // 0 1; 1 58 7; then INT and REF by turns up to 8: the last place has 8 locals and 8 on the stack.
        FrameWalk x = Check.one(4, 8, 8, false, 1, 58, 7, 3, 1, 3, 1, 3, 1, 1, 3, 177);
        Check.due("verdict", "11", Check.verdict(x));
        int[] due = {1, 1, 1, 1, 0, 0, 0, 2, 1, 2, 1, 2, 1, 2, 2, 1};
        for (int place = 3; place <= 11; place++) {
            int high = place - 3;
            for (int k = -1; k <= 17; k++) {
                boolean isThere = k >= 0 && k < 8 + high;
                Check.due("place " + place + ", " + k, isThere ? due[k] : -1, x.type(0, place, k));
            }
        }
        // Without locals the stack begins at 0.
        FrameWalk none = Check.one(0, 0, 2, false, 1, 3, 177);
        none.verify();
        Check.due("no locals, the lowest", 2, none.type(0, 2, 0));
        Check.due("no locals, the top", 1, none.type(0, 2, 1));
        Check.due("no locals, no more", -1, none.type(0, 2, 2));
        Check.due("no locals, an empty stack", -1, none.type(0, 0, 0));
    }

    private static void typesWithoutState() {
        // Method 1: 0 17 0 0; 3 167 to 8; 6 87; 7 177, to which nothing comes; 8 177.
        FrameWalk x = Check.fed(177, 17, 0, 0, 167, 0, 5, 87, 177, 177, 177);
        x.method(1, 1, 1, 0, false);
        x.method(9, 1, 1, 1, false);
        x.method(1, 1, 1, 0, false);
        Check.due("verdict", "5", Check.verdict(x));
        for (int place = -2; place <= 10; place++) {
            boolean hasState = place == 0 || place == 3 || place == 8;
            Check.due("place " + place, hasState ? 1 : -1, x.type(1, place, 0));
        }
        Check.due("the lowest place", -1, x.type(1, MIN, 0));
        Check.due("the highest place", -1, x.type(1, MAX, 0));
        for (int m : new int[] {MIN, -1, 3, 8, MAX}) {
            Check.due("method " + m, -1, x.type(m, 0, 0));
        }
        Check.due("method 0", 1, x.type(0, 0, 0));
        Check.due("method 0, place 1", -1, x.type(0, 1, 0));
        Check.due("method 2", 1, x.type(2, 0, 0));
        Check.due("method 2, place -1", -1, x.type(2, -1, 0));
    }

    private static void typeNumbers() {
        for (int locals = 0; locals <= 8; locals++) {
            FrameWalk x = Check.one(0, locals, 1, false, 3, 177);
            x.verify();
            for (int high = 0; high <= 1; high++) {
                int count = locals + high;
                Check.due("-1 of " + count, -1, x.type(0, high, -1));
                if (count > 0) {
                    Check.due("the last of " + count, high, x.type(0, high, count - 1));
                }
                Check.due("behind the last of " + count, -1, x.type(0, high, count));
                Check.due("the lowest", -1, x.type(0, high, MIN));
                Check.due("the highest", -1, x.type(0, high, MAX));
            }
        }
    }
}
