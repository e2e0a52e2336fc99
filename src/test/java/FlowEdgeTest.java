import java.util.Arrays;

/** The FLOW of "Terms", part by part, with what is right and what is just not. */
public final class FlowEdgeTest {
    private static final String NO_FLOW = "no flow in 0";

    public static void main(String[] args) {
        Check.sentence("going on from place 0 until nothing changes any more", FlowEdgeTest::untilNothingChanges);
        Check.sentence("place 0 has the arguments as INT, all other locals NONE", FlowEdgeTest::firstLocals);
        Check.sentence("place 0 has an empty stack", FlowEdgeTest::firstStack);
        Check.sentence("An instruction with a state finds what it takes off with the right types", FlowEdgeTest::takes);
        Check.sentence("An instruction with a state finds its local with the right types", FlowEdgeTest::findsLocal);
        Check.sentence("(any: INT or REF)", FlowEdgeTest::any);
        Check.sentence("and leaves at most HEIGHT", FlowEdgeTest::height);
        Check.sentence("172 only in a method that gives an int, 177 only in one that does not", FlowEdgeTest::ends);
        Check.sentence("What it leaves comes to the next instruction", FlowEdgeTest::next);
        Check.sentence("and, of a jump, to where it goes", FlowEdgeTest::whereItGoes);
        Check.sentence("(not to the next one, for 167; nowhere, for 172, 177)", FlowEdgeTest::nowhere);
        Check.sentence("behind the last instruction nothing may come", FlowEdgeTest::behindTheLast);
        Check.sentence("For each handler with from <= place < to", FlowEdgeTest::covered);
        Check.sentence("also its locals, and those that it leaves, come to the target", FlowEdgeTest::localsToTarget);
        Check.sentence("with one INT on the stack", FlowEdgeTest::oneInt);
        Check.sentence("(so HEIGHT must be at least 1, if one of these instructions has a state)",
                FlowEdgeTest::heightOfHandlers);
        Check.sentence("Where several come together stacks must be of one height", FlowEdgeTest::oneHeight);
        Check.sentence("and of the same types", FlowEdgeTest::sameTypes);
        Check.sentence("a local with different types is NONE", FlowEdgeTest::differentLocals);
        Check.sentence("Only instructions to which something comes have states", FlowEdgeTest::onlyThose);
        Check.end("FlowEdgeTest");
    }

    private static String verdictOf(int arguments, int locals, int height, int... bytes) {
        return Check.verdict(Check.one(arguments, locals, height, false, bytes));
    }

    private static FrameWalk handled(FrameWalk x, int from, int to, int target) {
        x.handler(from, to, target, 0);
        return x;
    }

    private static void untilNothingChanges() {
        Check.due("a loop that changes what it has read", NO_FLOW, verdictOf(1, 1, 1, 26, 87, 1, 75, 167, 255, 252));
        Check.due("a loop that changes it back", "7", verdictOf(1, 1, 1, 26, 87, 1, 75, 3, 59, 167, 255, 250));
        Check.due("back through 61 jumps an INT comes", "70", Check.verdict(chain(3, 59)));
        Check.due("back through 61 jumps an INT and a REF come", NO_FLOW, Check.verdict(chain(1, 75)));
        FrameWalk x = loops(3, 87, 87);
        Check.due("eight ways back, one pop too many", NO_FLOW, Check.verdict(x));
        FrameWalk right = loops(3, 116, 87);
        Check.due("eight ways back", "132", Check.verdict(right));
        for (int n = 0; n < 8; n++) {
            Check.due("before the loops local " + n, n <= 6 ? 1 : 0, right.type(0, 10, n));
            Check.due("where the loops begin local " + n, 0, right.type(0, 12, n));
            Check.due("an INT that way " + n + " changes, read before it", NO_FLOW, Check.verdict(loops(21, n, 87)));
        }
    }

    /**
     * 0 26; 1 153 to 7; 4 167 to the last; 7 a push and a store into local 0; 9 167 to the last;
     * 12 26, 87, 177; then 61 jumps, each to the one before it: what comes to the last goes back through all.
     */
    private static FrameWalk chain(int push, int store) {
        int last = 15 + 3 * 60;
        FrameWalk x = Check.fed(26, 153, 0, 6, 167, 0, last - 4, push, store, 167, 0, last - 9, 26, 87, 177);
        for (int i = 0; i < 61; i++) {
            Check.feed(x, 167, 255, 253);
        }
        x.method(last + 3, 1, 1, 1, false);
        return x;
    }

    /**
     * Locals 4 .. 7 become INTs; at 12 a long way begins, with the three bytes at its end; then eight ways back to 12:
     * way n makes local n a REF.
     */
    private static FrameWalk loops(int... three) {
        FrameWalk x = Check.fed(3, 54, 4, 3, 54, 5, 3, 54, 6, 3, 54, 7, 3);
        for (int i = 0; i < 78; i++) {
            x.feed(116);
        }
        x.feed(87);
        Check.feed(x, three);
        for (int n = 0; n < 8; n++) {
            int back = 12 - (95 + 12 * n + 9);
            Check.feed(x, 178, 0, 0, 153, 0, 9, 1, 58, n, 167, back >> 8, back);
        }
        x.feed(177);
        x.method(95 + 96 + 1, 4, 8, 1, false);
        return x;
    }

    private static void firstLocals() {
        for (int arguments = 0; arguments <= 4; arguments++) {
            if (arguments > 0) {
                Check.due("the last of " + arguments, "3", verdictOf(arguments, 8, 1, 21, arguments - 1, 87, 177));
                Check.due("the last of " + arguments + " as a REF", NO_FLOW,
                        verdictOf(arguments, 8, 1, 25, arguments - 1, 87, 177));
            }
            Check.due("behind the last of " + arguments, NO_FLOW, verdictOf(arguments, 8, 1, 21, arguments, 87, 177));
            Check.due("behind the last of " + arguments + " as a REF", NO_FLOW,
                    verdictOf(arguments, 8, 1, 25, arguments, 87, 177));
        }
    }

    private static void firstStack() {
        Check.due("a pop at place 0", NO_FLOW, verdictOf(0, 0, 1, 87, 177));
        Check.due("a pop behind a push", "3", verdictOf(0, 0, 1, 3, 87, 177));
        FrameWalk x = Check.one(0, 2, 1, false, 177);
        x.verify();
        Check.due("no type behind the locals", -1, x.type(0, 0, 2));
    }

    /** What each operation takes, the top last; all of them with locals 0: INT, 1: REF. */
    private static final String[][] TAKES = {
        {"RI", "46"}, {"RII", "79"}, {"I", "54 0"}, {"I", "59"}, {"R", "58 1"}, {"R", "76"},
        {"II", "96"}, {"II", "100"}, {"II", "104"}, {"II", "108"}, {"II", "112"}, {"II", "120"}, {"II", "122"},
        {"II", "124"}, {"II", "126"}, {"II", "128"}, {"II", "130"}, {"I", "116"},
        {"I", "153 0 3"}, {"I", "154 0 3"}, {"I", "155 0 3"}, {"I", "156 0 3"}, {"I", "157 0 3"}, {"I", "158 0 3"},
        {"II", "159 0 3"}, {"II", "160 0 3"}, {"II", "161 0 3"}, {"II", "162 0 3"}, {"II", "163 0 3"},
        {"II", "164 0 3"}, {"RR", "165 0 3"}, {"RR", "166 0 3"}, {"R", "198 0 3"}, {"R", "199 0 3"},
        {"I", "179 0 0"}, {"I", "188 10"}, {"R", "190"}, {"IIII", "184 0 1"},
    };

    private static String verdictOn(String stack, String operation) {
        FrameWalk x = Check.fed(1, 76);
        for (char c : stack.toCharArray()) {
            x.feed(c == 'I' ? 3 : 1);
        }
        String[] told = operation.split(" ");
        for (String b : told) {
            x.feed(Integer.parseInt(b));
        }
        Check.feed(x, 167, 0, 0, 167, 0, 0);
        x.method(2 + stack.length() + told.length + 3, 1, 2, 8, false);
        x.method(3, 4, 4, 0, false);
        return Check.verdict(x);
    }

    private static void takes() {
        for (String[] row : TAKES) {
            String need = row[0];
            String states = "" + (2 + need.length() + 1 + 1 + 1);
            Check.due(row[1] + " on " + need, states, verdictOn(need, row[1]));
            Check.due(row[1] + " on one less", NO_FLOW, verdictOn(need.substring(1), row[1]));
            for (int k = 0; k < need.length(); k++) {
                char other = need.charAt(k) == 'I' ? 'R' : 'I';
                String changed = need.substring(0, k) + other + need.substring(k + 1);
                Check.due(row[1] + " on " + changed, NO_FLOW, verdictOn(changed, row[1]));
            }
        }
        Check.due("172 on I", "2", Check.verdict(Check.one(0, 0, 1, true, 3, 172)));
        Check.due("172 on R", NO_FLOW, Check.verdict(Check.one(0, 0, 1, true, 1, 172)));
        Check.due("172 on none", NO_FLOW, Check.verdict(Check.one(0, 0, 1, true, 172)));
    }

    private static void findsLocal() {
        // Local 0 is an INT, local 1 a REF, local 2 NONE.
        String[][] reads = {{"21 ", "0"}, {"26", "0"}, {"25 ", "1"}, {"42", "1"}, {"132 ", "0"}};
        for (String[] read : reads) {
            for (int n = 0; n <= 2; n++) {
                FrameWalk x = Check.fed(1, 76);
                int operation = Integer.parseInt(read[0].trim());
                boolean isLong = read[0].endsWith(" ");
                int[] instruction = !isLong ? new int[] {operation + n}
                        : operation == 132 ? new int[] {132, n, 1} : new int[] {operation, n};
                Check.feed(x, instruction);
                x.feed(177);
                x.method(3 + instruction.length, 1, 3, 1, false);
                Check.due(operation + " of local " + n, n == Integer.parseInt(read[1]) ? "4" : NO_FLOW,
                        Check.verdict(x));
            }
        }
        Check.due("a store finds no type", "3", verdictOf(0, 1, 1, 3, 59, 177));
        Check.due("a store changes the type to INT", "6", verdictOf(0, 1, 1, 1, 75, 3, 59, 26, 177));
        Check.due("so that it is no REF", NO_FLOW, verdictOf(0, 1, 1, 1, 75, 3, 59, 42, 177));
        Check.due("a store changes the type to REF", "6", verdictOf(0, 1, 1, 3, 59, 1, 75, 42, 177));
        Check.due("so that it is no INT", NO_FLOW, verdictOf(0, 1, 1, 3, 59, 1, 75, 26, 177));
    }

    private static void any() {
        for (int push : new int[] {3, 1}) {
            Check.due("pop", "3", verdictOf(0, 0, 1, push, 87, 177));
            Check.due("dup", "3", verdictOf(0, 0, 2, push, 89, 177));
            for (int other : new int[] {3, 1}) {
                FrameWalk x = Check.one(0, 0, 2, false, push, other, 95, 177);
                Check.due("swap", "4", Check.verdict(x));
                Check.due("below", other == 3 ? 1 : 2, x.type(0, 3, 0));
                Check.due("on top", push == 3 ? 1 : 2, x.type(0, 3, 1));
            }
            Check.due("swap of one", NO_FLOW, verdictOf(0, 0, 2, push, 95, 177));
        }
        Check.due("pop of none", NO_FLOW, verdictOf(0, 0, 2, 87, 177));
        Check.due("dup of none", NO_FLOW, verdictOf(0, 0, 2, 89, 177));
        Check.due("swap of none", NO_FLOW, verdictOf(0, 0, 2, 95, 177));
    }

    private static void height() {
        for (int height = 0; height <= 8; height++) {
            int[] asMany = new int[height + 1];
            Arrays.fill(asMany, 3);
            asMany[height] = 177;
            Check.due(height + " of HEIGHT " + height, "" + (height + 1), verdictOf(0, 0, height, asMany));
            int[] more = new int[height + 2];
            Arrays.fill(more, 3);
            more[height + 1] = 177;
            Check.due(height + 1 + " of HEIGHT " + height, NO_FLOW, verdictOf(0, 0, height, more));
        }
        int[][] pushes = {{1}, {2}, {8}, {16, 0}, {17, 0, 0}, {21, 0}, {26}, {25, 1}, {43}, {178, 0, 0}, {184, 0, 1}};
        for (int[] push : pushes) {
            for (int height = 1; height <= 2; height++) {
                FrameWalk x = Check.fed(1, 76, 3);
                Check.feed(x, push);
                Check.feed(x, 177, 167, 0, 0);
                x.method(4 + push.length, 1, 2, height, false);
                x.method(3, 0, 0, 0, true);
                Check.due(push[0] + " on one, HEIGHT " + height, height == 2 ? "6" : NO_FLOW, Check.verdict(x));
            }
        }
        Check.due("dup, HEIGHT 2", "3", verdictOf(0, 0, 2, 3, 89, 177));
        Check.due("dup, HEIGHT 1", NO_FLOW, verdictOf(0, 0, 1, 3, 89, 177));
        Check.due("swap, HEIGHT 2", "4", verdictOf(0, 0, 2, 3, 3, 95, 177));
        Check.due("a new array, HEIGHT 1", "3", verdictOf(0, 0, 1, 3, 188, 10, 177));
        Check.due("its length, HEIGHT 1", "4", verdictOf(0, 0, 1, 3, 188, 10, 190, 177));
        Check.due("one without a state", "1", verdictOf(0, 0, 0, 177, 3));
    }

    private static void ends() {
        Check.due("172, gives an int", "2", Check.verdict(Check.one(0, 0, 1, true, 3, 172)));
        Check.due("172, gives nothing", NO_FLOW, Check.verdict(Check.one(0, 0, 1, false, 3, 172)));
        Check.due("177, gives nothing", "2", Check.verdict(Check.one(0, 0, 1, false, 3, 177)));
        Check.due("177, gives an int", NO_FLOW, Check.verdict(Check.one(0, 0, 1, true, 3, 177)));
        Check.due("172 without a state, gives nothing", "1", Check.verdict(Check.one(0, 0, 1, false, 177, 172)));
        Check.due("177 without a state, gives an int", "2", Check.verdict(Check.one(0, 0, 1, true, 3, 172, 177)));
        Check.due("a method that does not end, gives an int", "1", Check.verdict(Check.one(0, 0, 0, true, 167, 0, 0)));
    }

    private static void next() {
        FrameWalk x = Check.one(0, 1, 2, false, 3, 59, 1, 3, 177);
        Check.due("verdict", "5", Check.verdict(x));
        int[][] rows = {{0, 0, -1, -1}, {1, 0, 1, -1}, {2, 1, -1, -1}, {3, 1, 2, -1}, {4, 1, 2, 1}};
        for (int[] row : rows) {
            for (int k = 0; k < 3; k++) {
                Check.due("place " + row[0] + ", " + k, row[k + 1], x.type(0, row[0], k));
            }
        }
        // 0 26; 1 153 to 5; 4 87, which finds nothing; 5 177.
        Check.due("also behind a jump that may be made", NO_FLOW, verdictOf(1, 1, 1, 26, 153, 0, 4, 87, 177));
        Check.due("also behind a call", "6",
                Check.verdict(withMethod(Check.fed(184, 0, 1, 87, 177), 5, 0, 2, true)));
    }

    /** A method of all bytes so far, of HEIGHT 2, and one more that gives an int or nothing and does not end. */
    private static FrameWalk withMethod(FrameWalk x, int length, int arguments, int height, boolean givesInt) {
        Check.feed(x, 3, 87, 167, 255, 254);
        x.method(length, 0, 0, height, false);
        x.method(5, arguments, 4, 1, givesInt);
        return x;
    }

    private static void whereItGoes() {
        int[] ofOne = {153, 154, 155, 156, 157, 158};
        for (int o : ofOne) {
            // 0 3; 1 26; 2 jump to 7; 5 87; 6 177; 7 the target, with one INT.
            FrameWalk x = Check.one(1, 1, 2, false, 3, 26, o, 0, 5, 87, 177, 87, 177);
            Check.due(o + " to a pop", "7", Check.verdict(x));
            Check.due(o + ": what comes there", 1, x.type(0, 7, 1));
            Check.due(o + ": and no more", -1, x.type(0, 7, 2));
            Check.due(o + " to one that finds too few", NO_FLOW,
                    verdictOf(1, 1, 2, 3, 26, o, 0, 5, 87, 177, 96, 177));
        }
        Check.due("167 to a pop of nothing", NO_FLOW, verdictOf(0, 0, 1, 167, 0, 3, 87, 177));
        Check.due("167 to the end", "2", verdictOf(0, 0, 1, 167, 0, 3, 177));
        Check.due("back to place 0 with an empty stack", "3", verdictOf(0, 0, 1, 3, 87, 167, 255, 254));
        Check.due("back to place 0 with one", NO_FLOW, verdictOf(0, 0, 1, 3, 167, 255, 255));
    }

    private static void nowhere() {
        Check.due("behind 167", "2", verdictOf(0, 0, 0, 167, 0, 4, 87, 177));
        Check.due("behind 177", "1", verdictOf(0, 0, 0, 177, 87, 177));
        Check.due("behind 172", "2", Check.verdict(Check.one(0, 0, 1, true, 3, 172, 87, 172)));
        Check.due("167 as the last", "1", verdictOf(0, 0, 0, 167, 0, 0));
        Check.due("177 as the last", "1", verdictOf(0, 0, 0, 177));
        Check.due("172 as the last", "2", Check.verdict(Check.one(0, 0, 1, true, 3, 172)));
        for (int o : new int[] {153, 158, 198, 199}) {
            int push = o < 198 ? 3 : 1;
            Check.due("behind " + o, NO_FLOW, verdictOf(0, 0, 1, push, o, 0, 4, 87, 177));
        }
    }

    private static void behindTheLast() {
        Check.due("a push", NO_FLOW, verdictOf(0, 0, 1, 3));
        Check.due("a push, then the end", "2", verdictOf(0, 0, 1, 3, 177));
        Check.due("a pop", NO_FLOW, verdictOf(0, 0, 1, 3, 87));
        Check.due("a jump that may not be made", NO_FLOW, verdictOf(0, 0, 1, 3, 153, 255, 255));
        Check.due("a call", NO_FLOW, Check.verdict(withMethod(Check.fed(184, 0, 1), 3, 0, 1, false)));
        Check.due("a growth", NO_FLOW, verdictOf(1, 1, 0, 132, 0, 1));
        Check.due("without a state", "1", verdictOf(0, 0, 1, 177, 3));
        FrameWalk next = Check.fed(3, 177);
        next.method(1, 0, 0, 1, false);
        next.method(1, 0, 0, 1, false);
        Check.due("the next method's first", NO_FLOW, Check.verdict(next));
        int[] full = new int[200];
        Arrays.fill(full, 116);
        full[0] = 3;
        Check.due("behind 200 bytes", NO_FLOW, verdictOf(0, 0, 1, full));
        full[199] = 177;
        Check.due("the end as the last of them", "200", verdictOf(0, 0, 1, full));
    }

    /** 0 3; 1 59; 2 132 0 1; 5 167 to itself; 8 the target. Local 0 is NONE at 0 and 1, INT from 2 on. */
    private static FrameWalk setsLocal() {
        return Check.one(0, 1, 1, false, 3, 59, 132, 0, 1, 167, 0, 0, 87, 177);
    }

    private static void covered() {
        int[] beginnings = {0, 1, 2, 5, 8, 9, 10};
        for (int i = 0; i < beginnings.length; i++) {
            for (int j = i + 1; j < beginnings.length; j++) {
                int from = beginnings[i];
                int to = beginnings[j];
                FrameWalk x = handled(setsLocal(), from, to, 8);
                // Place 5 is the last to which something comes without the handler.
                boolean isReached = from <= 5;
                // The target, if it is covered itself, is come to with the one INT that it is found with.
                Check.due("from " + from + " to " + to, isReached ? "6" : "4", Check.verdict(x));
                boolean isNone = from <= 1;
                Check.due("from " + from + " to " + to + ": local", isReached ? isNone ? 0 : 1 : -1, x.type(0, 8, 0));
            }
        }
        // Local 0 is an INT at 0, changes at 1, is a REF at 2: what comes tells which of them are covered.
        int[][] rows = {{0, 1, 1}, {0, 2, 0}, {0, 5, 0}, {1, 2, 0}, {1, 5, 0}, {2, 5, 2}, {2, 6, 2}};
        for (int[] r : rows) {
            FrameWalk x = handled(Check.one(1, 1, 1, false, 1, 75, 167, 0, 0, 87, 177), r[0], r[1], 5);
            Check.due("a change, from " + r[0] + " to " + r[1], "5", Check.verdict(x));
            Check.due("a change, from " + r[0] + " to " + r[1] + ": local", r[2], x.type(0, 5, 0));
        }
        FrameWalk four = setsLocal();
        for (int h = 0; h < 3; h++) {
            four.handler(8, 9, 8, 0);
        }
        four.handler(5, 8, 8, 0);
        Check.due("the fourth handler", "6", Check.verdict(four));
    }

    private static void localsToTarget() {
        FrameWalk before = handled(setsLocal(), 1, 2, 8);
        Check.due("the one that sets it is covered", "6", Check.verdict(before));
        Check.due("its locals come", 0, before.type(0, 8, 0));
        FrameWalk behind = handled(setsLocal(), 2, 5, 8);
        Check.due("the one behind is covered", "6", Check.verdict(behind));
        Check.due("INT comes", 1, behind.type(0, 8, 0));

        // 0 1; 1 75: an INT argument becomes a REF; 2 167 to itself; 5 the target.
        FrameWalk first = handled(Check.one(1, 1, 1, false, 1, 75, 167, 0, 0, 87, 177), 0, 1, 5);
        Check.due("only before the change", "5", Check.verdict(first));
        Check.due("INT alone comes", 1, first.type(0, 5, 0));
        FrameWalk left = handled(Check.one(1, 1, 1, false, 1, 75, 167, 0, 0, 87, 177), 1, 2, 5);
        Check.due("the change", "5", Check.verdict(left));
        Check.due("those that it leaves come too", 0, left.type(0, 5, 0));
        FrameWalk last = handled(Check.one(1, 1, 1, false, 1, 75, 167, 0, 0, 87, 177), 2, 5, 5);
        Check.due("only behind the change", "5", Check.verdict(last));
        Check.due("REF alone comes", 2, last.type(0, 5, 0));
        // 0 3; 1 59; then 177: what the last one leaves goes nowhere but to the target.
        FrameWalk end = handled(Check.one(1, 1, 1, false, 177, 87, 26, 87, 177), 0, 1, 1);
        Check.due("the locals of 177", "5", Check.verdict(end));
        FrameWalk read = handled(Check.one(1, 1, 1, false, 1, 75, 167, 0, 0, 87, 26, 177), 1, 2, 5);
        Check.due("so that the target can't read it", NO_FLOW, Check.verdict(read));
    }

    private static void oneInt() {
        FrameWalk x = handled(Check.one(0, 0, 3, false, 1, 1, 1, 167, 0, 0, 87, 177), 3, 6, 6);
        Check.due("with three on the stack", "6", Check.verdict(x));
        Check.due("an INT comes", 1, x.type(0, 6, 0));
        Check.due("alone", -1, x.type(0, 6, 1));
        Check.due("two are not there", NO_FLOW,
                Check.verdict(handled(Check.one(0, 0, 3, false, 1, 1, 1, 167, 0, 0, 87, 87, 177), 3, 6, 6)));
        Check.due("it is no REF", NO_FLOW,
                Check.verdict(handled(Check.one(0, 0, 3, false, 1, 1, 1, 167, 0, 0, 190, 177), 3, 6, 6)));
        Check.due("a target that has an INT", "3",
                Check.verdict(handled(Check.one(0, 0, 1, false, 3, 87, 177), 0, 1, 1)));
        Check.due("a target that has a REF", NO_FLOW,
                Check.verdict(handled(Check.one(0, 0, 1, false, 1, 87, 177), 0, 1, 1)));
        Check.due("a target that has none", NO_FLOW,
                Check.verdict(handled(Check.one(0, 0, 1, false, 3, 87, 177), 0, 1, 2)));
        Check.due("a target that has two", NO_FLOW,
                Check.verdict(handled(Check.one(0, 0, 2, false, 3, 3, 96, 177), 0, 1, 2)));
        Check.due("place 0 as the target", NO_FLOW, Check.verdict(handled(Check.one(0, 0, 1, false, 177), 0, 1, 0)));
    }

    private static void heightOfHandlers() {
        for (int height = 0; height <= 1; height++) {
            Check.due("a state, HEIGHT " + height, height == 1 ? "2" : NO_FLOW,
                    Check.verdict(handled(Check.one(0, 0, height, false, 177, 177), 0, 1, 1)));
            Check.due("no state, HEIGHT " + height, "1",
                    Check.verdict(handled(Check.one(0, 0, height, false, 177, 177), 1, 2, 1)));
            Check.due("one of two has a state, HEIGHT " + height, height == 1 ? "2" : NO_FLOW,
                    Check.verdict(handled(Check.one(0, 0, height, false, 177, 177), 0, 2, 1)));
            Check.due("a target that takes the INT off, HEIGHT " + height, height == 1 ? "3" : NO_FLOW,
                    Check.verdict(handled(Check.one(0, 0, height, false, 177, 87, 177), 0, 1, 1)));
            Check.due("a target that gives the INT, HEIGHT " + height, height == 1 ? "2" : NO_FLOW,
                    Check.verdict(handled(Check.one(0, 0, height, true, 167, 0, 0, 172), 0, 3, 3)));
            Check.due("no handler, HEIGHT " + height, "1", verdictOf(0, 0, height, 177));
        }
    }

    /** 0 26; 1 153 to the second; 4 the first, then 167 behind the second; then 177. */
    private static FrameWalk joins(int[] first, int[] second, int... behind) {
        FrameWalk x = Check.fed(26, 153, 0, 6 + first.length);
        Check.feed(x, first);
        Check.feed(x, 167, 0, 3 + second.length);
        Check.feed(x, second);
        Check.feed(x, behind);
        x.feed(177);
        x.method(7 + first.length + second.length + behind.length + 1, 1, 3, 8, false);
        return x;
    }

    private static int[] times(int count, int b) {
        int[] row = new int[count];
        Arrays.fill(row, b);
        return row;
    }

    private static void oneHeight() {
        for (int a = 0; a <= 8; a++) {
            for (int b = Math.max(0, a - 1); b <= Math.min(8, a + 1); b++) {
                Check.due(a + " and " + b, a == b ? "" + (4 + a + b) : NO_FLOW,
                        Check.verdict(joins(times(a, 3), times(b, 3))));
            }
        }
    }

    private static void sameTypes() {
        for (int height = 1; height <= 8; height++) {
            for (int changed = 0; changed <= height; changed++) {
                int[] second = times(height, 3);
                if (changed < height) {
                    second[changed] = 1;
                }
                Check.due(height + " INTs, a REF at " + changed, changed == height ? "" + (4 + 2 * height) : NO_FLOW,
                        Check.verdict(joins(times(height, 3), second)));
                Check.due(height + " INTs, a REF at " + changed + ", the other way",
                        changed == height ? "" + (4 + 2 * height) : NO_FLOW,
                        Check.verdict(joins(second, times(height, 3))));
            }
        }
        Check.due("REFs", "8", Check.verdict(joins(times(2, 1), times(2, 1))));
        // null and an array are both REF.
        Check.due("null and an array", "7", Check.verdict(joins(new int[] {1}, new int[] {3, 188, 10})));
    }

    private static void differentLocals() {
        // Local 1 as NONE, INT or REF in each of two ways, that are equally long: either may come first.
        int[][] sets = {{3, 87}, {3, 60}, {1, 76}};
        for (int a = 0; a < 3; a++) {
            for (int b = 0; b < 3; b++) {
                FrameWalk x = joins(sets[a], sets[b]);
                int place = 7 + sets[a].length + sets[b].length;
                Check.due("types " + a + " and " + b, "" + (4 + sets[a].length + sets[b].length), Check.verdict(x));
                Check.due("types " + a + " and " + b + ": local 1", a == b ? a : 0, x.type(0, place, 1));
                Check.due("types " + a + " and " + b + ": local 0", 1, x.type(0, place, 0));
                Check.due("types " + a + " and " + b + ": local 2", 0, x.type(0, place, 2));
                String states = "" + (5 + sets[a].length + sets[b].length);
                Check.due("types " + a + " and " + b + " read as INT", a == 1 && b == 1 ? states : NO_FLOW,
                        Check.verdict(joins(sets[a], sets[b], 27)));
                Check.due("types " + a + " and " + b + " read as REF", a == 2 && b == 2 ? states : NO_FLOW,
                        Check.verdict(joins(sets[a], sets[b], 43)));
            }
        }
    }

    private static void onlyThose() {
        // 0 167 to 5; 3 87; 4 177, to which nothing comes; 5 177.
        FrameWalk x = Check.one(0, 1, 1, false, 167, 0, 5, 87, 177, 177);
        Check.due("two of four", "2", Check.verdict(x));
        int[] types = {0, -1, -1, -1, -1, 0};
        for (int place = 0; place < 6; place++) {
            Check.due("place " + place, types[place], x.type(0, place, 0));
        }
        // A jump that has no state brings nothing to where it goes: 0 177; 1 167 to 4; 4 87.
        FrameWalk jump = Check.one(0, 1, 1, false, 177, 167, 0, 3, 87, 177);
        Check.due("a jump without a state", "1", Check.verdict(jump));
        Check.due("where it goes", -1, jump.type(0, 4, 0));
        FrameWalk target = handled(Check.one(0, 1, 1, false, 177, 3, 87, 177), 1, 3, 2);
        Check.due("a handler of such", "1", Check.verdict(target));
        Check.due("its target", -1, target.type(0, 2, 0));
    }
}
