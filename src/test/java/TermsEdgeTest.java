import java.util.Arrays;

/** "What it is" and the beginning of "Terms": each sentence with a limit, on both sides of it. */
public final class TermsEdgeTest {
    public static void main(String[] args) {
        Check.sentence("An object is used for at most 512 calls after it has been made", TermsEdgeTest::calls);
        Check.sentence("CODE is at most 200 BYTES", TermsEdgeTest::bytes);
        Check.sentence("METHODS, at most 8, numbered 0, 1, ..", TermsEdgeTest::methods);
        Check.sentence("(METHODS) lie in it one behind the other", TermsEdgeTest::oneBehindTheOther);
        Check.sentence("a number of ARGUMENTS (0 .. 4)", TermsEdgeTest::arguments);
        Check.sentence("of LOCALS (from that up to 8)", TermsEdgeTest::locals);
        Check.sentence("a stack HEIGHT (0 .. 8)", TermsEdgeTest::height);
        Check.sentence("has at most 4 HANDLERS", TermsEdgeTest::handlers);
        Check.sentence("PLACES in a method are counted from its first byte, 0", TermsEdgeTest::places);
        Check.sentence("Arguments are ints, locals 0, 1, ...", TermsEdgeTest::argumentsAreLocals);
        Check.sentence("STATICS are 8 ints, at first 0", TermsEdgeTest::statics);
        Check.sentence("`NONE = -1`: Nothing there", () -> Check.due("NONE", -1, FrameWalk.NONE));
        Check.end("TermsEdgeTest");
    }

    /** Three objects, whose 512th call is the last one here. */
    private static void calls() {
        FrameWalk runs = Check.one(1, 1, 0, false, 132, 0, 1, 167, 255, 253);
        runs.verify();
        Check.start(runs, 0, 0);
        for (int call = 11; call < 512; call++) {
            runs.run(100);
        }
        Check.due("behind 501 runs local 0 at call 512", 501 * 50, runs.local(0));

        FrameWalk starts = Check.one(1, 1, 1, true, 26, 188, 10, 190, 172);
        starts.verify();
        for (int round = 0; round < 100; round++) {
            Check.start(starts, 0, 119);
            starts.run(100);
            Check.due("result of round " + round, 119, starts.result());
            starts.heap(-1);
        }
        Check.start(starts, 0, 118);
        starts.run(2);
        Check.due("heap at call 511", 119, starts.heap(-1));
        Check.due("stack at call 512", 0, starts.stack(0));

        FrameWalk feeds = new FrameWalk();
        for (int call = 1; call <= 512; call++) {
            int count = call;
            Check.due("feed as call " + call, call <= 200 ? count : Check.STATE, () -> feeds.feed(177));
        }
    }

    private static void bytes() {
        int[] full = new int[200];
        Arrays.fill(full, 3);
        full[0] = 167;
        full[1] = 0;
        full[2] = 199;
        full[199] = 177;
        FrameWalk x = new FrameWalk();
        for (int i = 0; i < 200; i++) {
            int at = i;
            Check.due("byte " + (i + 1), i + 1, () -> x.feed(full[at]));
        }
        Check.due("byte 201", Check.STATE, () -> x.feed(177));
        Check.due("a method of 201", Check.ARGUMENT, () -> x.method(201, 0, 0, 0, false));
        Check.due("a method of 200", 0, () -> x.method(200, 0, 0, 0, false));
        Check.due("its verdict", "2", Check.verdict(x));
        x.start(0);
        Check.due("the step to the last byte", 1, () -> x.run(1));
        Check.due("the last byte's place", 199, x.frame(0, 1));
        Check.due("the last byte's step", 1, () -> x.run(100));
        Check.due("state", 2, x.state());

        FrameWalk all = new FrameWalk();
        for (int i = 0; i < 66; i++) {
            Check.feed(all, 132, 0, 1);
        }
        Check.feed(all, 26, 172);
        all.method(200, 1, 1, 1, true);
        Check.due("all 200 bytes have states", "68", Check.verdict(all));
        Check.due("and all are run", "gives 166", Check.outcome(all, 100));
    }

    private static void methods() {
        FrameWalk x = Check.fed(177, 177, 177, 177, 177, 177, 177, 177, 177, 177);
        for (int m = 0; m < 8; m++) {
            int number = m;
            Check.due("method " + m, number, () -> x.method(1, 0, 0, 0, false));
        }
        Check.due("method 8", Check.STATE, () -> x.method(1, 0, 0, 0, false));
        Check.due("it is none", "8", Check.verdict(x));
        Check.due("start(7)", true, () -> x.start(7));
        Check.due("its number", 7, x.frame(0, 0));
        Check.due("start(8)", Check.ARGUMENT, () -> x.start(8));
    }

    /** Method m begins with m times a push and a pop, and gives 10 m: each has its own bytes. */
    private static void oneBehindTheOther() {
        FrameWalk x = new FrameWalk();
        for (int m = 0; m < 8; m++) {
            for (int i = 0; i < m; i++) {
                Check.feed(x, 3, 87);
            }
            Check.feed(x, 16, 10 * m, 172);
        }
        for (int m = 0; m < 8; m++) {
            x.method(2 * m + 3, 0, 0, 1, true);
        }
        Check.due("verdict", "72", Check.verdict(x));
        for (int m = 0; m < 8; m++) {
            int steps = 2 * m + 2;
            x.start(m);
            Check.due("steps of method " + m, steps, () -> x.run(100));
            Check.due("what method " + m + " gives", 10 * m, x.result());
        }
    }

    private static String methodAnswers(int arguments, int locals, int height) {
        FrameWalk x = Check.fed(177);
        return Check.answer(() -> x.method(1, arguments, locals, height, false));
    }

    private static void arguments() {
        Check.due("-1", Check.ARGUMENT, methodAnswers(-1, 8, 0));
        Check.due("0", "0", methodAnswers(0, 8, 0));
        Check.due("4", "0", methodAnswers(4, 8, 0));
        Check.due("5", Check.ARGUMENT, methodAnswers(5, 8, 0));
        Check.due("the lowest", Check.ARGUMENT, methodAnswers(Integer.MIN_VALUE, 8, 0));
        Check.due("the highest", Check.ARGUMENT, methodAnswers(Integer.MAX_VALUE, Integer.MAX_VALUE, 0));
        FrameWalk four = Check.verified(Check.one(4, 4, 0, false, 177));
        Check.start(four, 0, 11, 12, 13, 14);
        for (int n = 0; n < 4; n++) {
            Check.due("of four, argument " + n, 11 + n, four.local(n));
        }
        FrameWalk none = Check.verified(Check.one(0, 1, 0, false, 177));
        Check.due("of none, start", true, () -> none.start(0));
        Check.due("of none, local 0", 0, none.local(0));
    }

    private static void locals() {
        for (int a = 0; a <= 4; a++) {
            Check.due(a + " arguments, one local less", Check.ARGUMENT, methodAnswers(a, a - 1, 0));
            Check.due(a + " arguments, as many locals", "0", methodAnswers(a, a, 0));
            Check.due(a + " arguments, 8 locals", "0", methodAnswers(a, 8, 0));
            Check.due(a + " arguments, 9 locals", Check.ARGUMENT, methodAnswers(a, 9, 0));
        }
        Check.due("the lowest", Check.ARGUMENT, methodAnswers(0, Integer.MIN_VALUE, 0));
        Check.due("the highest", Check.ARGUMENT, methodAnswers(0, Integer.MAX_VALUE, 0));
        FrameWalk eight = Check.verified(Check.one(0, 8, 1, true, 8, 54, 7, 21, 7, 172));
        Check.due("local 7 of 8", "gives 5", Check.outcome(eight));
    }

    private static void height() {
        Check.due("-1", Check.ARGUMENT, methodAnswers(0, 0, -1));
        Check.due("0", "0", methodAnswers(0, 0, 0));
        Check.due("8", "0", methodAnswers(0, 0, 8));
        Check.due("9", Check.ARGUMENT, methodAnswers(0, 0, 9));
        Check.due("the lowest", Check.ARGUMENT, methodAnswers(0, 0, Integer.MIN_VALUE));
        Check.due("the highest", Check.ARGUMENT, methodAnswers(0, 0, Integer.MAX_VALUE));
        FrameWalk eight = Check.verified(Check.one(0, 0, 8, false, 2, 3, 4, 5, 6, 7, 8, 2, 167, 0, 0));
        eight.start(0);
        eight.run(8);
        Check.due("8 on the stack", 8, eight.frame(0, 2));
        Check.due("the lowest of them", -1, eight.stack(7));
        Check.due("the next to it", 0, eight.stack(6));
        Check.due("the top", -1, eight.stack(0));
    }

    /** Place 2 divides by zero; the target at 4 gives the kind. */
    private static FrameWalk divides() {
        return Check.one(0, 0, 2, true, 4, 3, 108, 172, 172);
    }

    private static void handlers() {
        FrameWalk fourth = divides();
        for (int kind = 2; kind <= 4; kind++) {
            Check.due("handler of kind " + kind, true, fourth.handler(0, 3, 4, kind));
        }
        Check.due("the fourth", true, fourth.handler(2, 3, 4, 1));
        Check.due("the fifth", false, fourth.handler(2, 3, 0, 0));
        Check.due("the fifth does not count", "5", Check.verdict(fourth));
        Check.due("the fourth does", "gives 1", Check.outcome(fourth));

        FrameWalk fifth = divides();
        for (int h = 0; h < 4; h++) {
            fifth.handler(0, 3, 4, 2);
        }
        Check.due("a fifth that would fit", false, fifth.handler(2, 3, 4, 1));
        fifth.verify();
        Check.due("it is not there", "state 3", Check.outcome(fifth));

        FrameWalk two = Check.fed(177, 177);
        for (int m = 0; m < 2; m++) {
            two.method(1, 0, 0, 1, false);
            for (int h = 1; h <= 5; h++) {
                Check.due("method " + m + ", handler " + h, h <= 4, two.handler(0, 1, 0, 0));
            }
        }
    }

    private static void places() {
        // Method 1 begins at byte 3 of the code: 0 16 9; 2 167 to 5; 5 87; 6 177.
        FrameWalk x = Check.fed(3, 87, 177, 16, 9, 167, 0, 3, 87, 177);
        x.method(3, 0, 0, 1, false);
        x.method(7, 0, 0, 1, false);
        Check.due("verdict", "7", Check.verdict(x));
        x.start(1);
        Check.due("the first place", 0, x.frame(0, 1));
        x.run(1);
        Check.due("the second instruction's place", 2, x.frame(0, 1));
        x.run(1);
        Check.due("behind the jump", 5, x.frame(0, 1));
        Check.due("type at place 2", 1, x.type(1, 2, 0));
        Check.due("type at place 0", -1, x.type(1, 0, 0));
        Check.due("type at place -1, which is in method 0", -1, x.type(1, -1, 0));

        FrameWalk back = Check.fed(177, 3, 87, 167, 255, 254);
        back.method(1, 0, 0, 0, false);
        back.method(5, 0, 0, 1, false);
        Check.due("a jump to place 0", "4", Check.verdict(back));
        FrameWalk before = Check.fed(177, 3, 87, 167, 255, 253);
        before.method(1, 0, 0, 0, false);
        before.method(5, 0, 0, 1, false);
        Check.due("a jump to place -1", "no shape in 1", Check.verdict(before));

        FrameWalk caught = Check.fed(177, 177, 4, 3, 108, 172, 172);
        caught.method(2, 0, 0, 0, false);
        caught.method(5, 0, 0, 2, true);
        caught.handler(2, 3, 4, 1);
        caught.verify();
        caught.start(1);
        caught.run(3);
        Check.due("a handler's target", 4, caught.frame(0, 1));
    }

    private static void argumentsAreLocals() {
        for (int arguments = 0; arguments <= 4; arguments++) {
            FrameWalk x = Check.one(arguments, 8, 0, false, 177);
            x.verify();
            for (int v = 0; v < arguments; v++) {
                x.argument(40 + v);
            }
            x.start(0);
            for (int n = 0; n < 8; n++) {
                Check.due(arguments + " arguments: type of local " + n, n < arguments ? 1 : 0, x.type(0, 0, n));
                Check.due(arguments + " arguments: local " + n, n < arguments ? 40 + n : 0, x.local(n));
            }
        }
    }

    private static void statics() {
        for (int i = 0; i < 8; i++) {
            FrameWalk x = Check.verified(Check.one(0, 0, 2, true, 178, 0, i, 16, 50 + i, 179, 0, i, 172));
            x.start(0);
            x.run(1);
            Check.due("static " + i + " at first", 0, x.stack(0));
            x.run(2);
            for (int k = -1; k <= 9; k++) {
                Check.due("static " + i + " is set: " + k, k == i ? 50 + i : 0, x.getStatic(k));
            }
        }
        for (int o = 178; o <= 179; o++) {
            Check.due(o + " of static 7", "1", Check.verdict(Check.one(0, 0, 1, false, 177, o, 0, 7)));
            Check.due(o + " of static 8", "no shape in 0", Check.verdict(Check.one(0, 0, 1, false, 177, o, 0, 8)));
        }
    }
}
