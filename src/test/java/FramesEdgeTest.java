/** FRAMES of "Terms": room, states, traps and handlers, with the last that fits and the first that does not. */
public final class FramesEdgeTest {
    private static final int MIN = Integer.MIN_VALUE;
    private static final int MAX = Integer.MAX_VALUE;

    public static void main(String[] args) {
        Check.sentence("One stack of 80 cells: a frame takes as many as the method's locals and HEIGHT together, "
                + "and one more", FramesEdgeTest::eightyCells);
        Check.sentence("the heap has 120", FramesEdgeTest::heapCells);
        Check.sentence("an array takes its length and 1 more", FramesEdgeTest::arrayCells);
        Check.sentence("IDLE (0), RUNNING (1), DONE (2)", FramesEdgeTest::untrapped);
        Check.sentence("TRAPPED (3: by 0 for / or %", FramesEdgeTest::byZero);
        Check.sentence("4: null", FramesEdgeTest::byNull);
        Check.sentence("5: an index that is none (of an array that is one)", FramesEdgeTest::byIndex);
        Check.sentence("6: a size below 0, whatever room there is)", FramesEdgeTest::bySize);
        Check.sentence("out of ROOM (7: a frame would not fit", FramesEdgeTest::frameRoom);
        Check.sentence("out of ROOM (8: an array)", FramesEdgeTest::arrayRoom);
        Check.sentence("A STEP makes an instruction", FramesEdgeTest::steps);
        Check.sentence("What traps has its KIND, 1 .. 4 (state less 2)", FramesEdgeTest::kinds);
        Check.sentence("in the frame, then in those that called it", FramesEdgeTest::thenInCallers);
        Check.sentence("the first handler (in the order in which they were told)", FramesEdgeTest::firstTold);
        Check.sentence("whose from and to are around the place of the instruction", FramesEdgeTest::around);
        Check.sentence("(of the call, there)", FramesEdgeTest::aroundTheCall);
        Check.sentence("and whose kind is that or 0 is looked for", FramesEdgeTest::kindOrZero);
        Check.sentence("its frame goes on at the target, the stack empty but for the kind", FramesEdgeTest::goesOn);
        Check.sentence("frames above are gone", FramesEdgeTest::framesAbove);
        Check.sentence("without one the machine is trapped", FramesEdgeTest::withoutOne);
        Check.sentence("A call goes on behind it when its method ends", FramesEdgeTest::behindTheCall);
        Check.sentence("When the first method ends the machine is done", FramesEdgeTest::firstEnds);
        Check.sentence("Locals that are no arguments are not read before they are set (NONE), and show as 0",
                FramesEdgeTest::unsetLocals);
        Check.sentence("REFs show as -1 for null, else as how many cells of the heap come before the array",
                FramesEdgeTest::refs);
        Check.end("FramesEdgeTest");
    }

    /** Four frames of 17 cells, then one of as many as are told. */
    private static FrameWalk filled(int locals, int height) {
        FrameWalk x = Check.fed(184, 0, 1, 177, 184, 0, 2, 177, 184, 0, 3, 177, 184, 0, 4, 177, 177);
        for (int m = 0; m < 4; m++) {
            x.method(4, 0, 8, 8, false);
        }
        x.method(1, 0, locals, height, false);
        return Check.verified(x);
    }

    private static void eightyCells() {
        for (int locals = 4; locals <= 8; locals++) {
            Check.due(locals + " locals, 80 cells", "gives 0", Check.outcome(filled(locals, 11 - locals)));
            Check.due(locals + " locals, 81 cells", "state 7", Check.outcome(filled(locals, 12 - locals)));
        }
        for (int locals = 0; locals <= 8; locals++) {
            for (int height = 0; height <= 8; height++) {
                FrameWalk x = Check.verified(Check.one(0, locals, height, false, 184, 0, 0, 177));
                int fit = 80 / (locals + height + 1);
                x.start(0);
                Check.due(locals + " and " + height + ": calls that fit", fit - 1, () -> x.run(fit - 1));
                Check.due(locals + " and " + height + ": frames", fit, x.depth());
                x.run(1);
                Check.due(locals + " and " + height + ": the next", 7, x.state());
            }
        }
        // A frame that has ended leaves its cells: 0 132 0 1; 3 184 1; 6 21 0; 8 16 100; 10 161 to 0; 13 177.
        FrameWalk again = Check.fed(132, 0, 1, 184, 0, 1, 21, 0, 16, 100, 161, 255, 246, 177, 177);
        again.method(14, 1, 8, 8, false);
        again.method(1, 0, 8, 8, false);
        again.verify();
        Check.due("100 calls, one behind the other", "gives 0", Check.outcome(again, 0));
    }

    /** Two arrays, one behind the other. */
    private static String twoArrays(int first, int second) {
        FrameWalk x = Check.verified(Check.one(2, 2, 1, false, 26, 188, 10, 87, 27, 188, 10, 87, 177));
        return Check.outcome(x, first, second);
    }

    private static String oneArray(int length) {
        FrameWalk x = Check.verified(Check.one(1, 1, 1, false, 26, 188, 10, 87, 177));
        return Check.outcome(x, length);
    }

    private static void heapCells() {
        Check.due("119", "gives 0", oneArray(119));
        Check.due("120", "state 8", oneArray(120));
        Check.due("the highest", "state 8", oneArray(MAX));
        Check.due("one less than the highest", "state 8", oneArray(MAX - 1));
        for (int first = 0; first <= 118; first++) {
            Check.due(first + " and what is left", "gives 0", twoArrays(first, 118 - first));
            Check.due(first + " and one more", "state 8", twoArrays(first, 119 - first));
        }
        Check.due("119 and 0", "state 8", twoArrays(119, 0));
        Check.due("50 and the highest", "state 8", twoArrays(50, MAX));
    }

    private static void arrayCells() {
        // Arrays of the argument for ever: 0 26; 1 188 10; 3 87; 4 167 to 0.
        for (int length : new int[] {0, 1, 2, 5, 39, 59, 60}) {
            FrameWalk x = Check.verified(Check.one(1, 1, 1, false, 26, 188, 10, 87, 167, 255, 252));
            Check.start(x, 0, length);
            int fit = 120 / (length + 1);
            for (int i = 0; i < fit; i++) {
                x.run(4);
            }
            Check.due(fit + " arrays of " + length + ": state", 1, x.state());
            Check.due(fit + " arrays of " + length + ": cells", fit * (length + 1), x.heap(-1));
            x.run(2);
            Check.due("one more of " + length, 8, x.state());
            Check.due("it takes nothing", fit * (length + 1), x.heap(-1));
        }
    }

    private static void untrapped() {
        FrameWalk x = Check.one(0, 0, 1, false, 3, 177);
        Check.due("not verified", 0, x.state());
        x.verify();
        Check.due("verified", 0, x.state());
        x.start(0);
        Check.due("started", 1, x.state());
        x.run(1);
        Check.due("before the last step", 1, x.state());
        x.run(1);
        Check.due("behind the last step", 2, x.state());
    }

    /** The bytes, then 0 is given; with two arguments, and HEIGHT 4. */
    private static String tried(int a, int b, int... bytes) {
        FrameWalk x = Check.fed(bytes);
        Check.feed(x, 3, 172);
        x.method(bytes.length + 2, 2, 2, 4, true);
        return Check.outcome(Check.verified(x), a, b);
    }

    private static void byZero() {
        for (int o : new int[] {108, 112}) {
            for (int a : new int[] {MIN, -1, 0, 1, MAX}) {
                Check.due(o + " of " + a + " by 0", "state 3", tried(a, 0, 26, 27, o, 87));
                Check.due(o + " of " + a + " by 1", "gives 0", tried(a, 1, 26, 27, o, 87));
                Check.due(o + " of " + a + " by -1", "gives 0", tried(a, -1, 26, 27, o, 87));
            }
        }
    }

    private static void byNull() {
        Check.due("null's int 0", "state 4", tried(0, 0, 1, 3, 46, 87));
        Check.due("null's int 0 set", "state 4", tried(0, 0, 1, 3, 3, 79));
        Check.due("null's length", "state 4", tried(0, 0, 1, 190, 87));
        Check.due("an array's int 0", "gives 0", tried(0, 0, 4, 188, 10, 3, 46, 87));
        Check.due("an array's int 0 set", "gives 0", tried(0, 0, 4, 188, 10, 3, 3, 79));
        Check.due("an array of none, its length", "gives 0", tried(0, 0, 3, 188, 10, 190, 87));
        Check.due("null may be moved and compared", "gives 0", tried(0, 0, 1, 89, 165, 0, 3, 1, 198, 0, 3, 1, 87));
    }

    private static void byIndex() {
        for (int length : new int[] {0, 1, 3, 119}) {
            for (int index : new int[] {MIN, -1, 0, length - 1, length, length + 1, MAX}) {
                String due = index >= 0 && index < length ? "gives 0" : "state 5";
                Check.due("of " + length + ", int " + index, due, tried(length, index, 26, 188, 10, 27, 46, 87));
                Check.due("of " + length + ", int " + index + " set", due,
                        tried(length, index, 26, 188, 10, 27, 8, 79));
            }
        }
        // The cells behind an array are another one's.
        Check.due("of two arrays, behind the first", "state 5", tried(2, 2, 26, 188, 10, 27, 188, 10, 87, 5, 46, 87));
        for (int index : new int[] {MIN, -1, 0, MAX}) {
            Check.due("null's int " + index, "state 4", tried(0, index, 1, 27, 46, 87));
            Check.due("null's int " + index + " set", "state 4", tried(0, index, 1, 27, 8, 79));
        }
    }

    private static void bySize() {
        Check.due("-1", "state 6", oneArray(-1));
        Check.due("the lowest", "state 6", oneArray(MIN));
        Check.due("0", "gives 0", oneArray(0));
        Check.due("-1, and no room", "state 6", twoArrays(119, -1));
        Check.due("the lowest, and no room", "state 6", twoArrays(119, MIN));
        Check.due("0, and no room", "state 8", twoArrays(119, 0));
        Check.due("-1, and room for one of none", "state 6", twoArrays(118, -1));
        Check.due("0, and room for it", "gives 0", twoArrays(118, 0));
    }

    private static void frameRoom() {
        // 0 184 1; 3 172; 4 172 as the target. Method 1 calls itself for ever.
        FrameWalk x = Check.fed(184, 0, 1, 172, 172, 8, 179, 0, 0, 184, 0, 1, 172, 172);
        x.method(5, 0, 0, 1, true);
        x.handler(0, 3, 4, 0);
        x.method(9, 0, 6, 1, true);
        x.handler(0, 7, 8, 0);
        x.verify();
        x.start(0);
        // A frame of 2 cells, then 9 of 8; 6 are left.
        Check.due("steps till the last frame that fits", 25, () -> x.run(25));
        Check.due("frames", 10, x.depth());
        Check.due("steps to the next call", 2, () -> x.run(2));
        Check.due("running", 1, x.state());
        Check.due("the step that finds no room", 1, () -> x.run(100));
        Check.due("state, whatever handlers there are", 7, x.state());
        Check.due("frames are gone", 0, x.depth());
        Check.due("statics stay", 5, x.getStatic(0));
        Check.due("no more steps", 0, () -> x.run(100));
    }

    private static void arrayRoom() {
        // 0 26; 1 188 10; 3 87; 4 27; 5 188 10; 7 190; 8 172; 9 172 as the target of all.
        FrameWalk x = Check.one(2, 2, 1, true, 26, 188, 10, 87, 27, 188, 10, 190, 172, 172);
        for (int kind = 0; kind <= 3; kind++) {
            x.handler(0, 9, 9, kind);
        }
        x.verify();
        Check.due("the last that fits", "gives 18", Check.outcome(x, 100, 18));
        Check.due("the first that does not, whatever handlers there are", "state 8", Check.outcome(x, 100, 19));
        Check.due("what was taken stays", 101, x.heap(-1));
        Check.due("frames are gone", 0, x.depth());
    }

    private static void steps() {
        FrameWalk x = Check.verified(Check.one(1, 1, 2, true, 17, 1, 0, 16, 5, 96, 132, 0, 1, 26, 96, 167, 0, 3, 172));
        Check.start(x, 0, 40);
        for (int place : new int[] {0, 3, 5, 6, 9, 10, 11, 14}) {
            Check.due("the next place", place, x.frame(0, 1));
            Check.due("a step", 1, () -> x.run(1));
        }
        Check.due("done", 2, x.state());
        Check.due("result", 302, x.result());
    }

    /** Method 0 makes what traps with each kind; at the end its target, which gives the kind. */
    private static FrameWalk trapping(int kind) {
        int[][] codes = {{4, 3, 108}, {1, 3, 46}, {3, 188, 10, 3, 46}, {2, 188, 10, 190}};
        int[] code = codes[kind - 1];
        FrameWalk x = Check.fed(code);
        Check.feed(x, 172, 172);
        x.method(code.length + 2, 0, 0, 2, true);
        return x;
    }

    private static int lengthOf(int kind) {
        return new int[] {3, 3, 5, 4}[kind - 1];
    }

    private static void kinds() {
        for (int kind = 1; kind <= 4; kind++) {
            FrameWalk caught = trapping(kind);
            caught.handler(0, lengthOf(kind), lengthOf(kind) + 1, 0);
            Check.due("kind " + kind, "gives " + kind, Check.outcome(Check.verified(caught)));
            Check.due("state of kind " + kind, "state " + (kind + 2), Check.outcome(Check.verified(trapping(kind))));
        }
    }

    private static void kindOrZero() {
        for (int kind = 1; kind <= 4; kind++) {
            for (int told = 0; told <= 4; told++) {
                FrameWalk x = trapping(kind);
                x.handler(0, lengthOf(kind), lengthOf(kind) + 1, told);
                boolean isCaught = told == 0 || told == kind;
                Check.due("kind " + kind + ", handler of " + told, isCaught ? "gives " + kind : "state " + (kind + 2),
                        Check.outcome(Check.verified(x)));
            }
        }
    }

    /**
     * Methods 0, 1 and 2 call the next; 3 divides by 0. Each has its target at 4, which gives 10, 20, 30 or 40;
     * those that are told have a handler.
     */
    private static FrameWalk nested(boolean... handled) {
        FrameWalk x = new FrameWalk();
        for (int m = 0; m < 3; m++) {
            Check.feed(x, 184, 0, m + 1, 172, 87, 16, 10 * m + 10, 172);
        }
        Check.feed(x, 4, 3, 108, 172, 87, 16, 40, 172);
        for (int m = 0; m < 4; m++) {
            x.method(8, 0, 0, 2, true);
            if (handled[m]) {
                x.handler(0, 3, 4, 1);
            }
        }
        return Check.verified(x);
    }

    private static void thenInCallers() {
        for (int set = 0; set < 16; set++) {
            FrameWalk x = nested((set & 1) != 0, (set & 2) != 0, (set & 4) != 0, (set & 8) != 0);
            int latest = set == 0 ? 0 : 31 - Integer.numberOfLeadingZeros(set);
            Check.due("handlers in methods of " + set, set == 0 ? "state 3" : "gives " + (10 * latest + 10),
                    Check.outcome(x));
            x.start(0);
            x.run(6);
            Check.due("frames behind the trap of " + set, set == 0 ? 0 : latest + 1, x.depth());
            Check.due("method behind the trap of " + set, set == 0 ? -1 : latest, x.frame(0, 0));
        }
    }

    /** 0 4; 1 3; 2 108; 3 172; then four targets at 4, 8, 12 and 16, which give 1, 2, 3 and 4. */
    private static FrameWalk fourTargets(int[]... handlers) {
        FrameWalk x = Check.fed(4, 3, 108, 172, 87, 16, 1, 172, 87, 16, 2, 172, 87, 16, 3, 172, 87, 16, 4, 172);
        x.method(20, 0, 0, 2, true);
        for (int[] h : handlers) {
            x.handler(h[0], h[1], h[2], h[3]);
        }
        return Check.verified(x);
    }

    private static void firstTold() {
        for (int first = 1; first <= 4; first++) {
            int[][] handlers = new int[4][];
            for (int h = 0; h < 4; h++) {
                // Those before the first do not fit: another kind. All behind it do.
                int kind = h + 1 < first ? 2 : h % 2;
                handlers[h] = new int[] {2, 3, 4 + 4 * h, kind};
            }
            Check.due("the first that fits is told as number " + first, "gives " + first,
                    Check.outcome(fourTargets(handlers)));
        }
        Check.due("the wider one first", "gives 1",
                Check.outcome(fourTargets(new int[] {0, 20, 4, 0}, new int[] {2, 3, 8, 1})));
        Check.due("the narrower one first", "gives 2",
                Check.outcome(fourTargets(new int[] {2, 3, 8, 1}, new int[] {0, 20, 4, 0})));
        Check.due("targets the other way round", "gives 4",
                Check.outcome(fourTargets(new int[] {2, 3, 16, 0}, new int[] {2, 3, 4, 0})));
    }

    private static void around() {
        int[] beginnings = {0, 1, 2, 3, 4};
        for (int from : beginnings) {
            for (int to = from + 1; to <= 4; to++) {
                boolean isAround = from <= 2 && to >= 3;
                Check.due("from " + from + " to " + to, isAround ? "gives 2" : "state 3",
                        Check.outcome(fourTargets(new int[] {from, to, 8, 0})));
            }
        }
        // One whose instruction is longer than a byte: 0 2; 1 188 10; 3 190; 4 172; 5 172. It traps at 1.
        int[] places = {0, 1, 3, 4, 6};
        for (int i = 0; i < places.length; i++) {
            for (int j = i + 1; j < places.length; j++) {
                FrameWalk x = Check.one(0, 0, 1, true, 2, 188, 10, 190, 172, 172);
                x.handler(places[i], places[j], 5, 4);
                boolean isAround = places[i] <= 1 && places[j] >= 3;
                Check.due("188, from " + places[i] + " to " + places[j], isAround ? "gives 4" : "state 6",
                        Check.outcome(Check.verified(x)));
            }
        }
    }

    private static void aroundTheCall() {
        // Method 0: 0 8; 1 184 1; 4 96; 5 172; 6 172 as the target. Method 1 divides by 0.
        int[] places = {0, 1, 4, 5, 6};
        for (int i = 0; i < places.length; i++) {
            for (int j = i + 1; j < places.length; j++) {
                FrameWalk x = Check.fed(8, 184, 0, 1, 96, 172, 172, 4, 3, 108, 172);
                x.method(7, 0, 0, 2, true);
                x.handler(places[i], places[j], 6, 0);
                x.method(4, 0, 0, 2, true);
                boolean isAround = places[i] <= 1 && places[j] >= 4;
                Check.due("from " + places[i] + " to " + places[j], isAround ? "gives 1" : "state 3",
                        Check.outcome(Check.verified(x)));
            }
        }
    }

    private static void goesOn() {
        // 0 2; 1 3; 2 4; 3 8; 4 3; 5 112; 6 172; 7 167 to itself. At 5 five lie on the stack.
        FrameWalk x = Check.one(1, 2, 5, true, 2, 3, 4, 8, 3, 112, 172, 167, 0, 0);
        x.handler(5, 6, 7, 1);
        x.verify();
        Check.start(x, 0, 60);
        x.run(5);
        Check.due("before: how many", 5, x.frame(0, 2));
        Check.due("the step that traps", 1, () -> x.run(1));
        Check.due("running", 1, x.state());
        Check.due("the place", 7, x.frame(0, 1));
        Check.due("how many", 1, x.frame(0, 2));
        Check.due("the kind", 1, x.stack(0));
        Check.due("nothing below", 0, x.stack(1));
        Check.due("locals stay", 60, x.local(0));
        // A caller's stack is emptied too: 0 8; 1 8; 2 184 1; 5 172; 6 167 to itself.
        FrameWalk caller = Check.fed(8, 8, 184, 0, 1, 172, 167, 0, 0, 4, 3, 108, 172);
        caller.method(9, 0, 0, 3, true);
        caller.handler(2, 5, 6, 0);
        caller.method(4, 0, 0, 2, true);
        caller.verify();
        caller.start(0);
        caller.run(6);
        Check.due("caller: the place", 6, caller.frame(0, 1));
        Check.due("caller: how many", 1, caller.frame(0, 2));
        Check.due("caller: the kind", 1, caller.stack(0));
        // HEIGHT 1 is enough for the kind.
        FrameWalk low = Check.one(0, 0, 1, true, 1, 190, 172, 172);
        low.handler(1, 2, 3, 2);
        Check.due("HEIGHT 1", "gives 2", Check.outcome(Check.verified(low)));
    }

    private static void framesAbove() {
        FrameWalk x = nested(false, true, false, false);
        x.start(0);
        x.run(5);
        Check.due("before the trap", 4, x.depth());
        x.run(1);
        Check.due("behind it", 2, x.depth());
        Check.due("the latest", 1, x.frame(0, 0));
        Check.due("the first", 0, x.frame(1, 0));
        Check.due("no other", -1, x.frame(2, 0));
        // Their cells are free again: 100 traps in a frame of 17 above one of 17.
        FrameWalk many = Check.fed(184, 0, 1, 177, 87, 132, 0, 1, 26, 16, 100, 161, 255, 245, 177, 4, 3, 108, 87, 177);
        many.method(15, 1, 8, 8, false);
        many.handler(0, 3, 4, 1);
        many.method(5, 0, 8, 8, false);
        many.verify();
        Check.due("100 traps", "gives 0", Check.outcome(many, 0));
    }

    private static void withoutOne() {
        for (int kind = 1; kind <= 4; kind++) {
            FrameWalk x = Check.verified(trapping(kind));
            x.start(0);
            x.run(100);
            Check.due("kind " + kind + ": state", kind + 2, x.state());
            Check.due("kind " + kind + ": no frames", 0, x.depth());
            Check.due("kind " + kind + ": no result", 0, x.result());
            Check.due("kind " + kind + ": no more steps", 0, () -> x.run(100));
        }
        FrameWalk deep = nested(false, false, false, false);
        deep.start(0);
        Check.due("four frames deep", 6, () -> deep.run(100));
        Check.due("four frames deep: state", 3, deep.state());
        Check.due("four frames deep: frames", 0, deep.depth());
    }

    private static void behindTheCall() {
        FrameWalk x = Check.fed(8, 184, 0, 1, 184, 0, 2, 87, 177, 177, 5, 172);
        x.method(9, 0, 0, 2, false);
        x.method(1, 0, 0, 0, false);
        x.method(2, 0, 0, 1, true);
        x.verify();
        x.start(0);
        int[][] seen = {{1, 1}, {2, 1}, {1, 4}, {2, 4}, {2, 4}, {1, 7}, {1, 8}};
        for (int[] row : seen) {
            x.run(1);
            Check.due("frames", row[0], x.depth());
            Check.due("the place in method 0", row[1], x.frame(row[0] - 1, 1));
        }
        x.run(1);
        Check.due("done", 2, x.state());
    }

    private static void firstEnds() {
        FrameWalk x = Check.fed(184, 0, 1, 177, 177);
        x.method(4, 0, 0, 0, false);
        x.method(1, 0, 0, 0, false);
        x.verify();
        x.start(0);
        x.run(2);
        Check.due("the second has ended", 1, x.state());
        x.run(1);
        Check.due("the first has ended", 2, x.state());
        x.start(1);
        x.run(1);
        Check.due("method 1 as the first", 2, x.state());
        // One that calls itself, done when its first frame ends: 0 26; 1 153 to 11; 4 132 0 -1; 7 26; 8 184 0; 11 177.
        FrameWalk itself = Check.one(1, 1, 1, false, 26, 153, 0, 10, 132, 0, 255, 26, 184, 0, 0, 177);
        itself.verify();
        Check.start(itself, 0, 2);
        itself.run(12);
        for (int frames = 3; frames >= 1; frames--) {
            Check.due("frames", frames, itself.depth());
            Check.due("running with " + frames, 1, itself.state());
            itself.run(1);
        }
        Check.due("done", 2, itself.state());
    }

    private static void unsetLocals() {
        // Method 1 sets its locals 1 .. 3; called again it shows 0 in the same cells.
        FrameWalk x = Check.fed(8, 184, 0, 1, 7, 184, 0, 1, 177, 6, 60, 6, 61, 3, 188, 10, 78, 177);
        x.method(9, 0, 0, 1, false);
        x.method(9, 1, 4, 1, false);
        x.verify();
        x.start(0);
        int[] steps = {2, 10};
        for (int call = 0; call < 2; call++) {
            x.run(steps[call]);
            Check.due("call " + call + ": frames", 2, x.depth());
            Check.due("call " + call + ": the argument", 5 - call, x.local(0));
            for (int n = 1; n <= 3; n++) {
                Check.due("call " + call + ": local " + n, 0, x.local(n));
            }
        }
        x.run(2);
        Check.due("local 1 is set", 3, x.local(1));
        Check.due("local 2 is not", 0, x.local(2));
        x.run(5);
        Check.due("a REF local that is set", 1, x.local(3));
        x.argument(9);
        x.start(1);
        for (int n = 1; n <= 3; n++) {
            Check.due("started as the first: local " + n, 0, x.local(n));
        }
        // What the caller took off its stack lies where no local is yet.
        FrameWalk popped = Check.fed(8, 7, 6, 87, 87, 184, 0, 1, 177, 177);
        popped.method(9, 0, 0, 4, false);
        popped.method(1, 1, 3, 1, false);
        popped.verify();
        popped.start(0);
        popped.run(6);
        Check.due("behind pops, the argument", 5, popped.local(0));
        Check.due("behind pops, local 1", 0, popped.local(1));
        Check.due("behind pops, local 2", 0, popped.local(2));
        Check.due("not read before it is set", "no flow in 0", Check.verdict(Check.one(1, 2, 1, false, 27, 177)));
    }

    private static void refs() {
        // Null, an array of the argument, and one of none behind it, which is also kept in local 0.
        for (int length : new int[] {0, 1, 117, 118}) {
            FrameWalk x = Check.verified(Check.one(1, 1, 4, false, 1, 26, 188, 10, 3, 188, 10, 89, 75, 167, 0, 0));
            Check.start(x, 0, length);
            x.run(7);
            Check.due("null", -1, x.stack(2));
            Check.due("the first", 0, x.stack(1));
            Check.due("behind one of " + length, length + 1, x.stack(0));
            Check.due("as a local", length + 1, x.local(0));
        }
    }
}
