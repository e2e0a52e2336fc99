/** Promises 1 to 8: each sentence that refuses, throws or answers at a limit, on both sides of it. */
public final class TellEdgeTest {
    private static final int MIN = Integer.MIN_VALUE;
    private static final int MAX = Integer.MAX_VALUE;

    public static void main(String[] args) {
        Check.sentence("1: No code", TellEdgeTest::noCode);
        Check.sentence("1: idle", () -> idle("new", new FrameWalk()));
        Check.sentence("2: A byte more, the lowest eight bits of b", TellEdgeTest::lowestBits);
        Check.sentence("2: how many there are", TellEdgeTest::howMany);
        Check.sentence("2: IllegalStateException if there are 200", TellEdgeTest::fullOfBytes);
        Check.sentence("2: or it was verified", TellEdgeTest::feedWhenVerified);
        Check.sentence("3: The next length bytes, from where the last method ends, are a method",
                TellEdgeTest::nextBytes);
        Check.sentence("3: its number", TellEdgeTest::methodNumbers);
        Check.sentence("3: IllegalArgumentException if the numbers are not as said", TellEdgeTest::methodArguments);
        Check.sentence("3: or length is not 1 up to the bytes that are left", TellEdgeTest::methodLength);
        Check.sentence("3: IllegalStateException if there are 8", TellEdgeTest::fullOfMethods);
        Check.sentence("3: or it was verified", TellEdgeTest::methodWhenVerified);
        Check.sentence("3: (The one named first, if both hold.)", TellEdgeTest::methodBoth);
        Check.sentence("4: A handler more of the latest method", TellEdgeTest::latestMethod);
        Check.sentence("4: (any numbers): true", TellEdgeTest::anyNumbers);
        Check.sentence("4: False if there is no method", TellEdgeTest::handlerWithoutMethod);
        Check.sentence("4: it has 4", TellEdgeTest::fullOfHandlers);
        Check.sentence("4: or it was verified", TellEdgeTest::handlerWhenVerified);
        Check.sentence("5: Verified, if all methods have their shape and flow", TellEdgeTest::allMethods);
        Check.sentence("5: how many instructions they have that have states", TellEdgeTest::countOfStates);
        Check.sentence("5: (Bytes that belong to no method are not looked at.)", TellEdgeTest::bytesOfNoMethod);
        Check.sentence("5: IllegalArgumentException if one has not", TellEdgeTest::oneHasNot);
        Check.sentence("5: IllegalStateException if it was verified already", TellEdgeTest::verifiedAlready);
        Check.sentence("5: or there is no method", TellEdgeTest::verifyWithoutMethod);
        Check.sentence("6: twice the number of the first method that is not right", TellEdgeTest::firstFault);
        Check.sentence("6: and 1 more if it has its shape", TellEdgeTest::shapeOrFlow);
        Check.sentence("6: NONE otherwise", TellEdgeTest::noFault);
        Check.sentence("6: (verify that throws IllegalStateException leaves it.)", TellEdgeTest::faultIsLeft);
        Check.sentence("7: Everything as at first", TellEdgeTest::everythingAsAtFirst);
        Check.sentence("8: An argument for the next start: true", TellEdgeTest::argumentsTaken);
        Check.sentence("8: False if there are 4", TellEdgeTest::fullOfArguments);
        Check.end("TellEdgeTest");
    }

    private static void noCode() {
        FrameWalk x = new FrameWalk();
        Check.due("a method of the first byte", Check.ARGUMENT, () -> x.method(1, 0, 0, 0, false));
        Check.due("verify", Check.STATE, () -> x.verify());
        Check.due("start", Check.ARGUMENT, () -> x.start(0));
        Check.due("the first byte", 1, () -> x.feed(177));
        Check.due("a method of it", 0, () -> x.method(1, 0, 0, 0, false));
    }

    private static void idle(String what, FrameWalk x) {
        Check.due(what + ": state", 0, x.state());
        Check.due(what + ": run", 0, () -> x.run(100));
        Check.due(what + ": result", 0, x.result());
        Check.due(what + ": depth", 0, x.depth());
        Check.due(what + ": fault", -1, x.fault());
        Check.due(what + ": type", -1, x.type(0, 0, 0));
        Check.due(what + ": heap(-1)", 0, x.heap(-1));
        for (int k = 0; k < 8; k++) {
            Check.due(what + ": static " + k, 0, x.getStatic(k));
            Check.due(what + ": heap " + k, 0, x.heap(k));
            Check.due(what + ": local " + k, 0, x.local(k));
            Check.due(what + ": stack " + k, 0, x.stack(k));
            Check.due(what + ": frame " + k, -1, x.frame(k, 0));
        }
    }

    private static void lowestBits() {
        // As the operand of 16 a byte shows what was kept of it.
        int[][] rows = {
            {0, 0}, {127, 127}, {128, -128}, {255, -1}, {256, 0}, {257, 1}, {511, -1}, {-1, -1}, {-128, -128},
            {-129, 127}, {-256, 0}, {-257, -1}, {MAX, -1}, {MIN, 0}, {MIN + 1, 1}, {0x12345678, 0x78},
        };
        for (int[] r : rows) {
            FrameWalk x = Check.verified(Check.one(0, 0, 1, true, 16, r[0], 172));
            Check.due("feed(" + r[0] + ")", "gives " + r[1], Check.outcome(x));
        }
        FrameWalk code = Check.one(0, 0, 1, true, 256 + 8, -256 + 172);
        Check.due("operations too", "2", Check.verdict(code));
        Check.due("operations too: run", "gives 5", Check.outcome(code));
    }

    private static void howMany() {
        FrameWalk x = new FrameWalk();
        Check.due("the first", 1, () -> x.feed(177));
        Check.due("the second", 2, () -> x.feed(-1));
        x.method(1, 0, 0, 0, false);
        Check.due("those of methods count too", 3, () -> x.feed(177));
        Check.due("a refused verify", Check.ARGUMENT, () -> {
            x.method(1, 0, 0, 0, false);
            return x.verify();
        });
        Check.due("behind it", 4, () -> x.feed(177));
        x.clear();
        Check.due("behind clear", 1, () -> x.feed(177));
    }

    private static FrameWalk fedTimes(int count) {
        FrameWalk x = new FrameWalk();
        for (int i = 0; i < count; i++) {
            x.feed(177);
        }
        return x;
    }

    private static void fullOfBytes() {
        FrameWalk x = fedTimes(199);
        Check.due("byte 200", 200, () -> x.feed(177));
        Check.due("byte 201", Check.STATE, () -> x.feed(177));
        Check.due("byte 201 again", Check.STATE, () -> x.feed(177));
        Check.due("a refused byte is not there", Check.ARGUMENT, () -> x.method(201, 0, 0, 0, false));
        Check.due("all but one", 0, () -> x.method(199, 0, 0, 0, false));
        Check.due("a method makes no room", Check.STATE, () -> x.feed(177));
        Check.due("the one that is left", 1, () -> x.method(1, 0, 0, 0, false));
        Check.due("verdict", "2", Check.verdict(x));
        Check.due("when it is verified", Check.STATE, () -> x.feed(177));
        x.clear();
        Check.due("cleared", 1, () -> x.feed(177));
    }

    private static void feedWhenVerified() {
        FrameWalk x = Check.fed(177);
        x.method(1, 0, 0, 0, false);
        Check.due("before", 2, () -> x.feed(177));
        x.verify();
        Check.due("verified", Check.STATE, () -> x.feed(177));
        x.start(0);
        Check.due("running", Check.STATE, () -> x.feed(177));
        x.run(100);
        Check.due("done", Check.STATE, () -> x.feed(177));
        FrameWalk refused = Check.one(0, 0, 0, false, 0);
        Check.due("a verify that throws", Check.ARGUMENT, () -> refused.verify());
        Check.due("it is not verified", 2, () -> refused.feed(177));
    }

    private static void nextBytes() {
        // Three methods that give 1, 2 and 3, of 2, 3 and 4 bytes.
        FrameWalk x = Check.fed(4, 172, 16, 2, 172, 17, 0, 3, 172);
        Check.due("the first", 0, () -> x.method(2, 0, 0, 1, true));
        Check.due("a refused one", Check.ARGUMENT, () -> x.method(1, 0, 0, 9, true));
        Check.due("the second", 1, () -> x.method(3, 0, 0, 1, true));
        Check.due("one byte too many", Check.ARGUMENT, () -> x.method(5, 0, 0, 1, true));
        Check.due("the third", 2, () -> x.method(4, 0, 0, 1, true));
        Check.due("verdict", "6", Check.verdict(x));
        for (int m = 0; m < 3; m++) {
            x.start(m);
            x.run(100);
            Check.due("what method " + m + " gives", m + 1, x.result());
        }
    }

    private static void methodNumbers() {
        FrameWalk x = fedTimes(9);
        for (int m = 0; m < 8; m++) {
            int number = m;
            Check.due("method " + m, number, () -> x.method(1, 0, 0, 0, false));
            if (m < 7) {
                Check.due("a refused one behind it", Check.ARGUMENT, () -> x.method(0, 0, 0, 0, false));
            }
        }
    }

    private static String methodAnswers(int arguments, int locals, int height) {
        FrameWalk x = Check.fed(177);
        return Check.answer(() -> x.method(1, arguments, locals, height, false));
    }

    private static void methodArguments() {
        for (int arguments = -1; arguments <= 5; arguments++) {
            for (int locals = -1; locals <= 9; locals++) {
                for (int height : new int[] {-1, 0, 8, 9}) {
                    boolean isRight = arguments >= 0 && arguments <= 4 && locals >= arguments && locals <= 8
                            && height >= 0 && height <= 8;
                    Check.due(arguments + ", " + locals + ", " + height, isRight ? "0" : Check.ARGUMENT,
                            methodAnswers(arguments, locals, height));
                }
            }
        }
        for (int far : new int[] {MIN, MAX}) {
            Check.due(far + " arguments", Check.ARGUMENT, methodAnswers(far, 8, 8));
            Check.due(far + " locals", Check.ARGUMENT, methodAnswers(0, far, 8));
            Check.due("HEIGHT " + far, Check.ARGUMENT, methodAnswers(0, 8, far));
        }
    }

    private static String lengthAnswers(int bytes, int before, int length) {
        FrameWalk x = fedTimes(bytes);
        if (before > 0) {
            x.method(before, 0, 0, 0, false);
        }
        return Check.answer(() -> x.method(length, 0, 0, 0, false));
    }

    private static void methodLength() {
        for (int bytes : new int[] {1, 2, 199, 200}) {
            Check.due("0 of " + bytes, Check.ARGUMENT, lengthAnswers(bytes, 0, 0));
            Check.due("1 of " + bytes, "0", lengthAnswers(bytes, 0, 1));
            Check.due("all of " + bytes, "0", lengthAnswers(bytes, 0, bytes));
            Check.due("one more than " + bytes, Check.ARGUMENT, lengthAnswers(bytes, 0, bytes + 1));
        }
        Check.due("1 of none", Check.ARGUMENT, lengthAnswers(0, 0, 1));
        Check.due("0 of none", Check.ARGUMENT, lengthAnswers(0, 0, 0));
        Check.due("1 of none that is left", Check.ARGUMENT, lengthAnswers(3, 3, 1));
        Check.due("2 of 2 that are left", "1", lengthAnswers(5, 3, 2));
        Check.due("3 of 2 that are left", Check.ARGUMENT, lengthAnswers(5, 3, 3));
        Check.due("0 of 2 that are left", Check.ARGUMENT, lengthAnswers(5, 3, 0));
        for (int far : new int[] {MIN, -1, MAX}) {
            Check.due(far + " of 2", Check.ARGUMENT, lengthAnswers(2, 0, far));
            Check.due(far + " of 2 that are left", Check.ARGUMENT, lengthAnswers(5, 3, far));
        }
    }

    private static void fullOfMethods() {
        FrameWalk x = fedTimes(20);
        for (int m = 0; m < 7; m++) {
            x.method(2, 0, 0, 0, false);
        }
        Check.due("the eighth", 7, () -> x.method(2, 0, 0, 0, false));
        Check.due("the ninth", Check.STATE, () -> x.method(2, 0, 0, 0, false));
        Check.due("the ninth again", Check.STATE, () -> x.method(1, 4, 8, 8, true));
        Check.due("verdict", "8", Check.verdict(x));
    }

    private static void methodWhenVerified() {
        FrameWalk x = fedTimes(3);
        x.method(1, 0, 0, 0, false);
        Check.due("before", 1, () -> x.method(1, 0, 0, 0, false));
        x.verify();
        Check.due("verified", Check.STATE, () -> x.method(1, 0, 0, 0, false));
        x.start(0);
        Check.due("running", Check.STATE, () -> x.method(1, 0, 0, 0, false));
        Check.due("it is not there", Check.ARGUMENT, () -> x.start(2));
        FrameWalk refused = Check.one(0, 0, 0, false, 0);
        Check.due("a verify that throws", Check.ARGUMENT, () -> refused.verify());
        refused.feed(177);
        Check.due("it is not verified", 1, () -> refused.method(1, 0, 0, 0, false));
    }

    private static void methodBoth() {
        FrameWalk full = fedTimes(10);
        for (int m = 0; m < 8; m++) {
            full.method(1, 0, 0, 0, false);
        }
        bothHold("8 methods", full, 2);
        full.verify();
        bothHold("8 methods, verified", full, 2);
        FrameWalk few = fedTimes(3);
        few.method(1, 0, 0, 0, false);
        few.verify();
        bothHold("verified", few, 2);
        FrameWalk none = fedTimes(1);
        none.method(1, 0, 0, 0, false);
        none.verify();
        Check.due("verified, no bytes left", Check.ARGUMENT, () -> none.method(1, 0, 0, 0, false));
    }

    private static void bothHold(String what, FrameWalk x, int left) {
        Check.due(what + ": all right", Check.STATE, () -> x.method(left, 0, 0, 0, false));
        Check.due(what + ": length 0", Check.ARGUMENT, () -> x.method(0, 0, 0, 0, false));
        Check.due(what + ": too long", Check.ARGUMENT, () -> x.method(left + 1, 0, 0, 0, false));
        Check.due(what + ": arguments", Check.ARGUMENT, () -> x.method(left, 5, 8, 0, false));
        Check.due(what + ": locals", Check.ARGUMENT, () -> x.method(left, 2, 1, 0, false));
        Check.due(what + ": height", Check.ARGUMENT, () -> x.method(left, 0, 0, 9, false));
    }

    private static void latestMethod() {
        // Both methods divide by 0; only the second has the handler.
        FrameWalk x = Check.fed(4, 3, 108, 172, 172, 4, 3, 108, 172, 172);
        x.method(5, 0, 0, 2, true);
        x.method(5, 0, 0, 2, true);
        Check.due("behind the second", true, x.handler(0, 3, 4, 0));
        Check.due("verdict", "9", Check.verdict(x));
        Check.due("the first", "state 3", Check.outcome(x));
        x.start(1);
        x.run(100);
        Check.due("the second", 1, x.result());

        FrameWalk refused = Check.fed(4, 3, 108, 172, 172);
        refused.method(5, 0, 0, 2, true);
        Check.due("a refused method", Check.ARGUMENT, () -> refused.method(1, 0, 0, 2, true));
        Check.due("the latest is still the first", true, refused.handler(0, 3, 4, 0));
        refused.verify();
        Check.due("it is its handler", "gives 1", Check.outcome(refused));
    }

    private static void anyNumbers() {
        int[] numbers = {MIN, -1, 0, 1, 5, 200, MAX};
        for (int v : numbers) {
            FrameWalk x = Check.one(0, 0, 1, false, 177, 87, 177);
            Check.due("from " + v, true, x.handler(v, 1, 1, 0));
            Check.due("to " + v, true, x.handler(0, v, 1, 0));
            Check.due("target " + v, true, x.handler(0, 1, v, 0));
            Check.due("kind " + v, true, x.handler(0, 1, 1, v));
        }
    }

    private static void handlerWithoutMethod() {
        FrameWalk x = Check.fed(177, 87, 177);
        Check.due("no method", false, x.handler(0, 1, 1, 0));
        Check.due("a refused method", Check.ARGUMENT, () -> x.method(4, 0, 0, 1, false));
        Check.due("still no method", false, x.handler(0, 1, 1, 0));
        x.method(3, 0, 0, 1, false);
        Check.due("the refused ones are not there", "1", Check.verdict(x));
        x.clear();
        Check.feed(x, 177, 87, 177);
        Check.due("cleared", false, x.handler(0, 1, 1, 0));
        x.method(3, 0, 0, 1, false);
        Check.due("a method", true, x.handler(0, 1, 1, 0));
    }

    private static void fullOfHandlers() {
        FrameWalk x = Check.fed(177, 87, 177, 177, 87, 177);
        for (int m = 0; m < 2; m++) {
            x.method(3, 0, 0, 1, false);
            for (int h = 1; h <= 4; h++) {
                Check.due("method " + m + ", handler " + h, true, x.handler(0, 1, 1, h));
            }
            Check.due("method " + m + ", handler 5", false, x.handler(0, 1, 1, 0));
            Check.due("method " + m + ", handler 6, wrong", false, x.handler(5, 1, 9, 7));
        }
        Check.due("what was refused is not there", "6", Check.verdict(x));
    }

    private static void handlerWhenVerified() {
        FrameWalk x = Check.one(0, 0, 2, true, 4, 3, 108, 172, 172);
        Check.due("before", true, x.handler(2, 3, 4, 2));
        x.verify();
        Check.due("verified", false, x.handler(2, 3, 4, 1));
        Check.due("it is not there", "state 3", Check.outcome(x));
        Check.due("trapped", false, x.handler(2, 3, 4, 1));
        FrameWalk refused = Check.one(0, 0, 1, false, 0);
        Check.due("a verify that throws", Check.ARGUMENT, () -> refused.verify());
        Check.due("it is not verified", true, refused.handler(0, 1, 0, 0));
    }

    /** Eight methods, all right but for those that are told with other bytes. */
    private static FrameWalk eight(int wrong, int... bytes) {
        FrameWalk x = new FrameWalk();
        for (int m = 0; m < 8; m++) {
            int[] code = m == wrong ? bytes : new int[] {3, 177};
            Check.feed(x, code);
            x.method(code.length, 0, 0, 1, false);
        }
        return x;
    }

    private static void allMethods() {
        FrameWalk right = eight(-1);
        Check.due("not yet", Check.STATE, () -> right.start(7));
        Check.due("all are right", 16, () -> right.verify());
        Check.due("it is verified", true, () -> right.start(7));
        for (int m = 0; m < 8; m++) {
            FrameWalk x = eight(m, 87, 177);
            Check.due("not method " + m, Check.ARGUMENT, () -> x.verify());
            int other = 7 - m;
            Check.due("then none can be started: " + other, Check.STATE, () -> x.start(other));
        }
    }

    private static void countOfStates() {
        Check.due("one", "1", Check.verdict(Check.fedMethod(0, 177)));
        Check.due("one of two", "1", Check.verdict(Check.fedMethod(0, 177, 177)));
        Check.due("long ones count once", "4", Check.verdict(Check.fedMethod(1, 17, 1, 2, 179, 0, 0, 167, 0, 3, 177)));
        Check.due("those of all methods", "16", Check.verdict(eight(-1)));
        Check.due("those of all methods, one without a state", "16", Check.verdict(eight(5, 3, 177, 177)));
        FrameWalk full = new FrameWalk();
        Check.feed(full, 3);
        for (int i = 0; i < 198; i++) {
            full.feed(116);
        }
        full.feed(177);
        full.method(200, 0, 0, 1, false);
        Check.due("200", "200", Check.verdict(full));
        FrameWalk again = Check.one(0, 0, 1, false, 3, 87, 3, 87, 177);
        again.verify();
        again.clear();
        Check.feed(again, 177, 3, 87, 177);
        again.method(4, 0, 0, 1, false);
        Check.due("none of before clear", "1", Check.verdict(again));
    }

    private static void bytesOfNoMethod() {
        FrameWalk x = Check.fed(177, 0, 255, 87);
        x.method(1, 0, 0, 0, false);
        Check.due("no operations behind the last method", "1", Check.verdict(x));
        FrameWalk y = Check.fed(177, 0, 255, 87);
        y.method(2, 0, 0, 0, false);
        Check.due("the same in the method", "no shape in 0", Check.verdict(y));
        FrameWalk z = Check.fed(16, 177);
        z.method(1, 0, 0, 1, false);
        Check.due("they do not make an instruction whole", "no shape in 0", Check.verdict(z));
        FrameWalk flow = Check.fed(3, 177);
        flow.method(1, 0, 0, 1, false);
        Check.due("nor does a method go on there", "no flow in 0", Check.verdict(flow));
    }

    private static void oneHasNot() {
        for (int m = 0; m < 8; m++) {
            FrameWalk shape = eight(m, 0, 177);
            Check.due("no shape of " + m, Check.ARGUMENT, () -> shape.verify());
            Check.due("again", Check.ARGUMENT, () -> shape.verify());
            FrameWalk flow = eight(m, 3, 87);
            Check.due("no flow of " + m, Check.ARGUMENT, () -> flow.verify());
            Check.due("again", Check.ARGUMENT, () -> flow.verify());
            Check.due("no types", -1, flow.type(0, 1, 0));
        }
        FrameWalk mended = Check.one(0, 0, 0, false, 184, 0, 1, 177);
        Check.due("a call of a method that is not there", Check.ARGUMENT, () -> mended.verify());
        mended.feed(177);
        mended.method(1, 0, 0, 0, false);
        Check.due("when it is there", 3, () -> mended.verify());
    }

    private static void verifiedAlready() {
        FrameWalk x = Check.fedMethod(0, 177);
        Check.due("the first time", 1, () -> x.verify());
        Check.due("the second time", Check.STATE, () -> x.verify());
        x.start(0);
        Check.due("running", Check.STATE, () -> x.verify());
        Check.due("it goes on", 1, x.state());
        x.run(1);
        Check.due("done", Check.STATE, () -> x.verify());
        Check.due("still verified", true, () -> x.start(0));
        x.clear();
        Check.feed(x, 177);
        x.method(1, 0, 0, 0, false);
        Check.due("cleared", 1, () -> x.verify());
    }

    private static void verifyWithoutMethod() {
        FrameWalk x = new FrameWalk();
        Check.due("no bytes", Check.STATE, () -> x.verify());
        x.feed(0);
        Check.due("a byte alone", Check.STATE, () -> x.verify());
        Check.due("it is not verified", 2, () -> x.feed(177));
        x.method(1, 0, 0, 0, false);
        Check.due("a method", Check.ARGUMENT, () -> x.verify());
        x.clear();
        Check.due("cleared", Check.STATE, () -> x.verify());
    }

    private static void firstFault() {
        for (int m = 0; m < 8; m++) {
            FrameWalk x = eight(m, 0, 177);
            Check.answer(() -> x.verify());
            Check.due("method " + m + " alone", 2 * m, x.fault());
        }
        for (int first = 0; first < 8; first++) {
            // All from the first on are wrong, by shape and by flow in turn.
            FrameWalk x = new FrameWalk();
            for (int m = 0; m < 8; m++) {
                int operation = m < first ? 3 : (m - first) % 2 == 0 ? 87 : 0;
                Check.feed(x, operation, 177);
                x.method(2, 0, 0, 1, false);
            }
            Check.due("verify", Check.ARGUMENT, () -> x.verify());
            Check.due("from " + first + " on", 2 * first + 1, x.fault());
        }
    }

    private static void shapeOrFlow() {
        for (int m = 0; m < 8; m++) {
            Check.due("no shape of " + m, "no shape in " + m, Check.verdict(eight(m, 0, 177)));
            Check.due("no flow of " + m, "no flow in " + m, Check.verdict(eight(m, 87, 177)));
            Check.due("neither of " + m, "no shape in " + m, Check.verdict(eight(m, 87, 0)));
        }
        FrameWalk handler = Check.one(0, 0, 0, false, 177);
        handler.handler(0, 1, 0, 5);
        Check.due("a handler's kind is of shape", "no shape in 0", Check.verdict(handler));
        FrameWalk height = Check.one(0, 0, 0, false, 177);
        height.handler(0, 1, 0, 4);
        Check.due("HEIGHT of a handler is of flow", "no flow in 0", Check.verdict(height));
    }

    private static void noFault() {
        FrameWalk x = new FrameWalk();
        Check.due("new", -1, x.fault());
        Check.feed(x, 184, 0, 1, 177);
        x.method(4, 0, 0, 0, false);
        Check.due("before verify", -1, x.fault());
        Check.due("verify", Check.ARGUMENT, () -> x.verify());
        Check.due("behind it", 0, x.fault());
        x.feed(177);
        x.method(1, 0, 0, 0, false);
        x.handler(0, 1, 0, 0);
        Check.due("till the next verify", 0, x.fault());
        Check.due("the next verify", Check.ARGUMENT, () -> x.verify());
        Check.due("behind the next", 3, x.fault());
        x.clear();
        Check.due("cleared", -1, x.fault());
        Check.feed(x, 87, 177);
        x.method(2, 0, 0, 1, false);
        Check.due("no flow", Check.ARGUMENT, () -> x.verify());
        Check.due("its fault", 1, x.fault());

        FrameWalk mended = Check.one(0, 0, 0, false, 184, 0, 1, 177);
        Check.answer(() -> mended.verify());
        Check.due("not right", 0, mended.fault());
        mended.feed(177);
        mended.method(1, 0, 0, 0, false);
        mended.verify();
        Check.due("right", -1, mended.fault());
        mended.start(0);
        mended.run(100);
        Check.due("done", -1, mended.fault());
    }

    private static void faultIsLeft() {
        FrameWalk x = new FrameWalk();
        Check.due("no method", Check.STATE, () -> x.verify());
        Check.due("no method: fault", -1, x.fault());
        Check.feed(x, 177);
        x.method(1, 0, 0, 0, false);
        x.verify();
        Check.due("verified already", Check.STATE, () -> x.verify());
        Check.due("verified already: fault", -1, x.fault());
    }

    /** Whatever was told and run before: nothing of it is left. */
    private static void everythingAsAtFirst() {
        // Static 7 is set, then an array of the argument is made: by it the machine ends, traps or finds no room.
        for (int steps : new int[] {0, 3, 4, 5, 100}) {
            for (int argument : new int[] {0, 3, -1, 120}) {
                FrameWalk x = Check.fed(8, 179, 0, 7, 26, 188, 10, 190, 172);
                x.method(9, 1, 1, 1, true);
                x.verify();
                x.argument(argument);
                x.start(0);
                x.run(steps);
                x.argument(1);
                x.clear();
                asAtFirst(steps + " steps with " + argument, x);
            }
        }
        FrameWalk full = fedTimes(200);
        for (int m = 0; m < 8; m++) {
            full.method(25, 4, 8, 8, false);
            for (int h = 0; h < 4; h++) {
                full.handler(0, 4, 4, 0);
            }
        }
        for (int v = 0; v < 4; v++) {
            full.argument(v);
        }
        full.clear();
        asAtFirst("full", full);
        clearedWhenRefused();
        FrameWalk four = fedTimes(1);
        four.method(1, 0, 0, 1, false);
        for (int h = 0; h < 4; h++) {
            four.handler(0, 1, 0, 0);
        }
        four.clear();
        four.feed(177);
        four.method(1, 0, 0, 1, false);
        for (int h = 1; h <= 5; h++) {
            Check.due("behind four handlers, handler " + h, h <= 4, four.handler(0, 1, 0, 0));
        }
        FrameWalk twice = new FrameWalk();
        twice.clear();
        twice.clear();
        asAtFirst("new", twice);
    }

    /** Verify stops at the pop, which finds nothing, while place 3 is still to be looked at: that is forgotten too. */
    private static void clearedWhenRefused() {
        for (int round = 0; round < 2; round++) {
            // 0 167 to 4; 3 177; 4 3; 5 153 to 3; 8 87; 9 177.
            FrameWalk x = Check.fedMethod(1, 167, 0, 4, 177, 3, 153, 255, 254, 87, 177);
            Check.due("refused", Check.ARGUMENT, () -> x.verify());
            x.clear();
            if (round == 0) {
                asAtFirst("refused", x);
                continue;
            }
            Check.feed(x, 177, 177, 177, 87);
            x.method(4, 0, 0, 1, false);
            Check.due("nothing comes to place 3", "1", Check.verdict(x));
        }
    }

    private static void asAtFirst(String what, FrameWalk x) {
        idle(what, x);
        Check.due(what + ": verify", Check.STATE, () -> x.verify());
        Check.due(what + ": start", Check.ARGUMENT, () -> x.start(0));
        Check.due(what + ": handler", false, x.handler(0, 1, 0, 0));
        Check.due(what + ": method", Check.ARGUMENT, () -> x.method(1, 0, 0, 0, false));
        for (int i = 0; i < 5; i++) {
            int count = i + 1;
            int b = new int[] {16, 1, 3, 108, 172}[i];
            Check.due(what + ": byte " + count, count, () -> x.feed(b));
        }
        Check.due(what + ": a first method", 0, () -> x.method(5, 0, 3, 2, true));
        Check.due(what + ": it has no handlers", 4, () -> x.verify());
        Check.due(what + ": there are no arguments", true, () -> x.start(0));
        for (int k = 0; k < 3; k++) {
            Check.due(what + ": a new local " + k, 0, x.local(k));
        }
        x.run(100);
        Check.due(what + ": no handler of before", 3, x.state());
        for (int v = 1; v <= 5; v++) {
            Check.due(what + ": argument " + v, v <= 4, x.argument(v));
        }
    }

    private static void argumentsTaken() {
        for (int v : new int[] {MIN, -1, 0, 1, MAX}) {
            FrameWalk x = Check.verified(Check.one(1, 1, 1, true, 26, 172));
            Check.due("argument(" + v + ")", true, x.argument(v));
            x.start(0);
            Check.due("it is local 0", v, x.local(0));
        }
        FrameWalk early = new FrameWalk();
        Check.due("before there is any code", true, early.argument(7));
        early.feed(177);
        early.method(1, 1, 1, 0, false);
        Check.due("not verified", Check.STATE, () -> early.start(0));
        early.verify();
        Check.due("it is kept", true, () -> early.start(0));
        Check.due("its value", 7, early.local(0));
        Check.due("while it is running", true, early.argument(8));
        Check.due("it is not for this start", 7, early.local(0));
        Check.due("but for the next", true, () -> early.start(0));
        Check.due("its value then", 8, early.local(0));
    }

    private static void fullOfArguments() {
        FrameWalk x = Check.verified(Check.one(4, 5, 0, false, 177));
        for (int round = 0; round < 2; round++) {
            for (int v = 1; v <= 4; v++) {
                Check.due("round " + round + ", argument " + v, true, x.argument(100 * round + v));
            }
            Check.due("round " + round + ", argument 5", false, x.argument(99));
            Check.due("round " + round + ", argument 6", false, x.argument(98));
            Check.due("round " + round + ": start", true, () -> x.start(0));
            for (int n = 0; n < 4; n++) {
                Check.due("round " + round + ", local " + n, 100 * round + n + 1, x.local(n));
            }
            Check.due("round " + round + ", local 4", 0, x.local(4));
        }
    }
}
