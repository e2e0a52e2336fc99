import java.util.ArrayList;
import java.util.Arrays;
import java.util.List;
import java.util.Random;
import java.util.concurrent.Callable;
import java.util.function.Function;

/** Generated programs and calls, answered by FrameWalk as by Model. */
public final class ModelTest {
    private static final int PROGRAMS = 30000;
    // The document promises no more of one object.
    private static final int MOST_CALLS = 512;

    private static final int[] EASY = {
        1, 2, 3, 4, 5, 6, 7, 8, 16, 17, 21, 25, 26, 27, 28, 42, 43, 44, 46, 54, 58, 59, 60, 61, 75, 76, 77, 79, 87,
        89, 95, 96, 100, 104, 108, 112, 116, 120, 122, 124, 126, 128, 130, 132, 153, 154, 155, 156, 157, 158, 159,
        160, 161, 162, 163, 164, 165, 166, 167, 178, 179, 184, 188, 190, 198, 199,
    };

    private final Random random;
    private FrameWalk x = new FrameWalk();
    private int calls;
    private final List<Function<FrameWalk, Object>> told = new ArrayList<>();
    private Model model = new Model();
    private final String name;
    private int verifiedCount;
    private int callee;
    private int chosen;
    private final List<Integer> withOneInt = new ArrayList<>();
    private int[] lengths = new int[0];
    private int[] arguments = new int[0];

    private ModelTest(int seed) {
        // A seed makes it the same numbers each time.
        random = new Random(seed);
        name = "program " + seed;
    }

    public static void main(String[] args) {
        int verified = 0;
        int caught = 0;
        int[] states = new int[9];
        for (int seed = 0; seed < PROGRAMS; seed++) {
            ModelTest test = new ModelTest(seed);
            test.run();
            verified += test.verifiedCount;
            caught += test.model.caughtCount();
            states[test.model.state()]++;
        }
        System.out.println(verified + " verified; " + caught + " caught; states at the end " + Arrays.toString(states));
        Check.due("enough programs are verified", true, verified > PROGRAMS / 10);
        Check.due("enough is caught", true, caught > PROGRAMS / 100);
        for (int s = 0; s < states.length; s++) {
            Check.due("state " + s + " is met", true, states[s] > 0);
        }
        Check.end("ModelTest");
    }

    private void run() {
        for (int attempt = 0; attempt < 40 && verifiedCount == 0; attempt++) {
            build();
        }
        types();
        for (int i = 0; i < 3; i++) {
            walk();
        }
    }

    /** A call that changes nothing. */
    private void same(String call, Callable<Object> due, Function<FrameWalk, Object> got) {
        if (calls >= MOST_CALLS) {
            makeAnother();
        }
        calls++;
        Check.due(name + ": " + call, Check.answer(due), () -> got.apply(x));
    }

    /** A call that another object must be told too, to become like this one. */
    private void sameTold(String call, Callable<Object> due, Function<FrameWalk, Object> got) {
        same(call, due, got);
        told.add(got);
    }

    private void makeAnother() {
        x = new FrameWalk();
        calls = told.size();
        for (Function<FrameWalk, Object> call : told) {
            Check.answer(() -> call.apply(x));
        }
    }

    private void makeNew() {
        told.clear();
        // Model has no clear: a new object is what everything is like at first.
        model = new Model();
        if (calls > MOST_CALLS / 2) {
            makeAnother();
        } else {
            calls++;
            x.clear();
        }
    }

    private void build() {
        makeNew();
        int count = 1 + random.nextInt(3);
        lengths = new int[count];
        arguments = new int[count];
        boolean[] givesInt = new boolean[count];
        for (int m = 0; m < count; m++) {
            arguments[m] = random.nextInt(3);
            givesInt[m] = random.nextBoolean();
        }
        for (int m = 0; m < count; m++) {
            int locals = arguments[m] + random.nextInt(3);
            int height = 1 + random.nextInt(5);
            List<Integer> starts = new ArrayList<>();
            withOneInt.clear();
            int[] code = random.nextInt(4) == 0
                    ? generate(starts, locals, givesInt[m], count)
                    : typed(starts, arguments[m], locals, height, givesInt, m);
            for (int b : code) {
                sameTold("feed", () -> model.feed(b), y -> y.feed(b));
            }
            int args = arguments[m];
            boolean gives = givesInt[m];
            lengths[m] = code.length;
            sameTold("method", () -> model.method(code.length, args, locals, height, gives),
                    y -> y.method(code.length, args, locals, height, gives));
            handlers(starts, code.length);
        }
        same("fault before", () -> model.fault(), y -> y.fault());
        sameTold("verify", () -> model.verify(), y -> y.verify());
        same("fault", () -> model.fault(), y -> y.fault());
        if (model.fault() == -1) {
            verifiedCount++;
        }
    }

    private void handlers(List<Integer> starts, int length) {
        int count = random.nextInt(2) == 0 ? random.nextInt(4) : 0;
        for (int h = 0; h < count; h++) {
            int from = starts.get(random.nextInt(starts.size()));
            int to = random.nextInt(3) == 0 ? length : starts.get(random.nextInt(starts.size()));
            int target = !withOneInt.isEmpty() && random.nextInt(6) > 0
                    ? withOneInt.get(random.nextInt(withOneInt.size()))
                    : starts.get(random.nextInt(starts.size()));
            int kind = random.nextInt(5);
            sameTold("handler", () -> model.handler(from, to, target, kind), y -> y.handler(from, to, target, kind));
        }
    }

    /** Any operations, with operands that are mostly right. */
    private int[] generate(List<Integer> starts, int locals, boolean givesInt, int count) {
        List<Integer> code = new ArrayList<>();
        int wanted = 1 + random.nextInt(8);
        for (int i = 0; i < wanted; i++) {
            starts.add(code.size());
            int op = random.nextInt(40) == 0 ? random.nextInt(256) : EASY[random.nextInt(EASY.length)];
            add(code, op, locals, count);
        }
        starts.add(code.size());
        if (givesInt) {
            starts.add(code.size() + 1);
            code.add(4);
        }
        code.add(givesInt ? 172 : 177);
        aim(code, starts);
        return code.stream().mapToInt(Integer::intValue).toArray();
    }

    private void add(List<Integer> code, int op, int locals, int count) {
        code.add(op);
        if (op == 16) {
            code.add(random.nextInt(256));
        } else if (op == 17) {
            code.add(random.nextInt(256));
            code.add(random.nextInt(256));
        } else if (op == 21 || op == 25 || op == 54 || op == 58) {
            code.add(random.nextInt(Math.max(1, locals)));
        } else if (op == 132) {
            code.add(random.nextInt(Math.max(1, locals)));
            code.add(random.nextInt(256));
        } else if (op >= 153 && op <= 167 || op == 198 || op == 199) {
            code.add(-1);
            code.add(-1);
        } else if (op == 178 || op == 179) {
            code.add(0);
            code.add(random.nextInt(8));
        } else if (op == 184) {
            code.add(0);
            code.add(random.nextInt(count));
        } else if (op == 188) {
            code.add(10);
        }
    }

    /** Jumps go to beginnings of instructions. */
    private void aim(List<Integer> code, List<Integer> starts) {
        for (int place = 0; place + 2 < code.size(); place++) {
            if (code.get(place + 1) == -1 && code.get(place + 2) == -1) {
                int w = starts.get(random.nextInt(starts.size())) - place;
                code.set(place + 1, w >> 8 & 255);
                code.set(place + 2, w & 255);
            }
        }
    }

    /** Operations that find what they take, if no jump comes in between. */
    private int[] typed(List<Integer> starts, int args, int locals, int height, boolean[] givesInt, int m) {
        List<Integer> code = new ArrayList<>();
        StringBuilder stack = new StringBuilder();
        char[] held = new char[locals];
        for (int n = 0; n < locals; n++) {
            held[n] = n < args ? 'I' : 'N';
        }
        List<String> shapes = new ArrayList<>();
        int wanted = 3 + random.nextInt(14);
        for (int i = 0; i < wanted; i++) {
            int op = EASY[random.nextInt(EASY.length)];
            String after = tried(op, stack.toString(), held, locals, height, givesInt);
            if (after == null) {
                continue;
            }
            starts.add(code.size());
            shapes.add(stack.toString());
            int before = code.size();
            add(code, op, locals, givesInt.length);
            if (op == 184) {
                code.set(before + 2, callee);
            } else if (op == 21 || op == 25 || op == 54 || op == 58 || op == 132) {
                code.set(before + 1, chosen);
            }
            stack = new StringBuilder(after);
        }
        starts.add(code.size());
        shapes.add(stack.toString());
        if (givesInt[m]) {
            if (stack.length() == 0 || stack.charAt(stack.length() - 1) != 'I') {
                code.add(3);
                starts.add(code.size());
                shapes.add(stack + "I");
            }
            code.add(172);
        } else {
            code.add(177);
        }
        for (int i = 0; i < starts.size(); i++) {
            if (shapes.get(i).equals("I")) {
                withOneInt.add(starts.get(i));
            }
        }
        aimAtSame(code, starts, shapes);
        return code.stream().mapToInt(Integer::intValue).toArray();
    }

    private String tried(int op, String stack, char[] held, int locals, int height, boolean[] givesInt) {
        String takes = "";
        String puts = "";
        if (op == 184) {
            callee = random.nextInt(givesInt.length);
            takes = "I".repeat(arguments[callee]);
            puts = givesInt[callee] ? "I" : "";
        } else if (op == 89 || op == 95 || op == 87) {
            int need = op == 95 ? 2 : 1;
            if (stack.length() < need) {
                return null;
            }
            takes = stack.substring(stack.length() - need);
            puts = op == 87 ? "" : op == 89 ? takes + takes : "" + takes.charAt(1) + takes.charAt(0);
        } else {
            String[] effect = effect(op);
            takes = effect[0];
            puts = effect[1];
        }
        if (!stack.endsWith(takes) || stack.length() - takes.length() + puts.length() > height) {
            return null;
        }
        int n = shortLocal(op);
        if (op == 21 || op == 25 || op == 54 || op == 58 || op == 132) {
            n = random.nextInt(Math.max(1, locals));
            chosen = n;
        }
        if (n >= locals) {
            return null;
        }
        if (n >= 0) {
            boolean stores = !takes.isEmpty();
            char kind = op == 132 ? 'I' : (takes + puts).charAt(0);
            if (!stores && held[n] != kind) {
                return null;
            }
            held[n] = kind;
        }
        return stack.substring(0, stack.length() - takes.length()) + puts;
    }

    private static int shortLocal(int op) {
        for (int first : new int[] {26, 42, 59, 75}) {
            if (op >= first && op <= first + 3) {
                return op - first;
            }
        }
        return -1;
    }

    private static String[] effect(int op) {
        if (op >= 2 && op <= 17 || op == 21 || op >= 26 && op <= 29 || op == 178) {
            return new String[] {"", "I"};
        }
        if (op == 1 || op == 25 || op >= 42 && op <= 45) {
            return new String[] {"", "R"};
        }
        if (op == 46) {
            return new String[] {"RI", "I"};
        }
        if (op == 79) {
            return new String[] {"RII", ""};
        }
        if (op == 54 || op >= 59 && op <= 62 || op >= 153 && op <= 158 || op == 179) {
            return new String[] {"I", ""};
        }
        if (op == 58 || op >= 75 && op <= 78 || op == 198 || op == 199) {
            return new String[] {"R", ""};
        }
        if (op == 116) {
            return new String[] {"I", "I"};
        }
        if (op >= 96 && op <= 130) {
            return new String[] {"II", "I"};
        }
        if (op >= 159 && op <= 164) {
            return new String[] {"II", ""};
        }
        if (op == 165 || op == 166) {
            return new String[] {"RR", ""};
        }
        if (op == 188) {
            return new String[] {"I", "R"};
        }
        if (op == 190) {
            return new String[] {"R", "I"};
        }
        return new String[] {"", ""};
    }

    /** Jumps mostly go where the stack is the same. */
    private void aimAtSame(List<Integer> code, List<Integer> starts, List<String> shapes) {
        for (int i = 0; i + 1 < starts.size(); i++) {
            int place = starts.get(i);
            if (place + 2 >= code.size() || code.get(place + 1) != -1 || code.get(place + 2) != -1) {
                continue;
            }
            List<Integer> same = new ArrayList<>();
            for (int j = 0; j < starts.size(); j++) {
                if (shapes.get(j).equals(shapes.get(i + 1))) {
                    same.add(starts.get(j));
                }
            }
            int w = same.get(random.nextInt(same.size())) - place;
            code.set(place + 1, w >> 8 & 255);
            code.set(place + 2, w & 255);
        }
    }

    private void types() {
        for (int m = 0; m < lengths.length; m++) {
            for (int place = 0; place < lengths[m]; place++) {
                for (int k = 0; k < 16; k++) {
                    int method = m;
                    int at = place;
                    int which = k;
                    same("type(" + m + ", " + place + ", " + k + ")", () -> model.type(method, at, which),
                            y -> y.type(method, at, which));
                }
            }
        }
    }

    private void walk() {
        int m = random.nextInt(lengths.length);
        int many = random.nextInt(20) == 0 ? random.nextInt(6) : arguments[m];
        for (int i = 0; i < many; i++) {
            int v = random.nextInt(3) == 0 ? random.nextInt() : random.nextInt(12) - 2;
            sameTold("argument", () -> model.argument(v), y -> y.argument(v));
        }
        sameTold("start(" + m + ")", () -> model.start(m), y -> y.start(m));
        for (int i = 0; i < 12; i++) {
            int n = random.nextInt(4) == 0 ? random.nextInt(101) : random.nextInt(5);
            sameTold("run(" + n + ")", () -> model.run(n), y -> y.run(n));
            look();
            if (model.state() != 1) {
                break;
            }
        }
    }

    private void look() {
        same("state", () -> model.state(), y -> y.state());
        same("result", () -> model.result(), y -> y.result());
        same("depth", () -> model.depth(), y -> y.depth());
        for (int k = -1; k < 4; k++) {
            int at = k;
            same("frame method", () -> model.frame(at, 0), y -> y.frame(at, 0));
            same("frame place", () -> model.frame(at, 1), y -> y.frame(at, 1));
            same("frame stack", () -> model.frame(at, 2), y -> y.frame(at, 2));
        }
        for (int k = -1; k < 6; k++) {
            int at = k;
            same("local " + k, () -> model.local(at), y -> y.local(at));
            same("stack " + k, () -> model.stack(at), y -> y.stack(at));
        }
        for (int k = 0; k < 8; k++) {
            int at = k;
            same("static " + k, () -> model.getStatic(at), y -> y.getStatic(at));
        }
        for (int k = -1; k < 12; k++) {
            int at = k;
            same("heap " + k, () -> model.heap(at), y -> y.heap(at));
        }
    }
}
