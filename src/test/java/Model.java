import java.util.ArrayDeque;
import java.util.ArrayList;
import java.util.Arrays;
import java.util.HashMap;
import java.util.List;
import java.util.Map;
import java.util.TreeMap;

/**
 * The document written a second time, with other means: states are texts, REFs are Java's own arrays,
 * flow is swept again and again until nothing changes.
 */
final class Model {
    private static final class Part {
        int first;
        int length;
        int arguments;
        int locals;
        int height;
        boolean givesInt;
        final List<int[]> handlers = new ArrayList<>();
        Map<Integer, String[]> states = new TreeMap<>();
    }

    private static final class Level {
        int part;
        int place;
        Object[] locals;
        final ArrayList<Object> stack = new ArrayList<>();
    }

    private static final class Wrong extends Exception {
        private static final long serialVersionUID = 1L;
        final int state;

        Wrong(int state) {
            this.state = state;
        }
    }

    private static final Object NULL = new Object();

    private final List<Integer> bytes = new ArrayList<>();
    private final List<Part> parts = new ArrayList<>();
    private final List<Integer> given = new ArrayList<>();
    private final int[] statics = new int[8];
    private final List<int[]> heap = new ArrayList<>();
    private final ArrayList<Level> levels = new ArrayList<>();
    private boolean verified;
    private int fault = -1;
    private int state;
    private int result;

    int feed(int b) {
        if (bytes.size() == 200 || verified) {
            throw new IllegalStateException();
        }
        bytes.add(Math.floorMod(b, 256));
        return bytes.size();
    }

    private int used() {
        return parts.stream().mapToInt(p -> p.length).sum();
    }

    int method(int length, int arguments, int locals, int height, boolean givesInt) {
        if (arguments < 0 || arguments > 4 || locals < arguments || locals > 8 || height < 0 || height > 8
                || length < 1 || length > bytes.size() - used()) {
            throw new IllegalArgumentException();
        }
        if (parts.size() == 8 || verified) {
            throw new IllegalStateException();
        }
        Part p = new Part();
        p.first = used();
        p.length = length;
        p.arguments = arguments;
        p.locals = locals;
        p.height = height;
        p.givesInt = givesInt;
        parts.add(p);
        return parts.size() - 1;
    }

    boolean handler(int from, int to, int target, int kind) {
        if (parts.isEmpty() || verified || parts.get(parts.size() - 1).handlers.size() == 4) {
            return false;
        }
        parts.get(parts.size() - 1).handlers.add(new int[] {from, to, target, kind});
        return true;
    }

    int verify() {
        if (verified || parts.isEmpty()) {
            throw new IllegalStateException();
        }
        fault = -1;
        int count = 0;
        for (int m = 0; m < parts.size(); m++) {
            Part p = parts.get(m);
            List<Integer> places = shape(p);
            if (places == null) {
                fault = 2 * m;
                throw new IllegalArgumentException();
            }
            p.states = flow(p, places);
            if (p.states == null) {
                fault = 2 * m + 1;
                throw new IllegalArgumentException();
            }
            count += p.states.size();
        }
        verified = true;
        return count;
    }

    int fault() {
        return fault;
    }

    // What an operation is: its operands, what it takes (A: any), what it puts.

    private static final Map<Integer, String> KINDS = new HashMap<>();

    private static void kind(int from, int to, String kind) {
        for (int o = from; o <= to; o++) {
            KINDS.put(o, kind);
        }
    }

    static {
        kind(1, 1, ":>R");
        kind(2, 8, ":>I");
        kind(16, 16, "b:>I");
        kind(17, 17, "w:>I");
        kind(21, 21, "l:>I");
        kind(25, 25, "l:>R");
        kind(26, 29, ":>I");
        kind(42, 45, ":>R");
        kind(46, 46, ":RI>I");
        kind(54, 54, "l:I>");
        kind(58, 58, "l:R>");
        kind(59, 62, ":I>");
        kind(75, 78, ":R>");
        kind(79, 79, ":RII>");
        kind(87, 87, ":A>");
        kind(89, 89, ":A>");
        kind(95, 95, ":AA>");
        for (int o : new int[] {96, 100, 104, 108, 112, 120, 122, 124, 126, 128, 130}) {
            kind(o, o, ":II>I");
        }
        kind(116, 116, ":I>I");
        kind(132, 132, "lb:>");
        kind(153, 158, "j:I>");
        kind(159, 164, "j:II>");
        kind(165, 166, "j:RR>");
        kind(167, 167, "j:>");
        kind(172, 172, ":I>");
        kind(177, 177, ":>");
        kind(178, 178, "s:>I");
        kind(179, 179, "s:I>");
        kind(184, 184, "m:>");
        kind(188, 188, "a:I>R");
        kind(190, 190, ":R>I");
        kind(198, 199, "j:R>");
    }

    private String operands(int op) {
        return KINDS.get(op).split(":", -1)[0];
    }

    private String takes(int op) {
        return KINDS.get(op).split(":", -1)[1].split(">", -1)[0];
    }

    private String puts(int op) {
        return KINDS.get(op).split(">", -1)[1];
    }

    private int size(int op) {
        int size = 1;
        for (char c : operands(op).toCharArray()) {
            size += c == 'b' || c == 'l' || c == 'a' ? 1 : 2;
        }
        return size;
    }

    private int at(Part p, int place) {
        return bytes.get(p.first + place);
    }

    private int word(Part p, int place) {
        int w = at(p, place + 1) * 256 + at(p, place + 2);
        return w >= 32768 ? w - 65536 : w;
    }

    private static int signed(int b) {
        return b >= 128 ? b - 256 : b;
    }

    /** The local of an instruction that has one, else -1. */
    private int localOf(Part p, int place) {
        int op = at(p, place);
        for (int first : new int[] {26, 42, 59, 75}) {
            if (op >= first && op <= first + 3) {
                return op - first;
            }
        }
        return operands(op).startsWith("l") ? at(p, place + 1) : -1;
    }

    private List<Integer> shape(Part p) {
        List<Integer> places = new ArrayList<>();
        int place = 0;
        while (place < p.length) {
            int op = at(p, place);
            if (!KINDS.containsKey(op) || place + size(op) > p.length) {
                return null;
            }
            places.add(place);
            place += size(op);
        }
        for (int i : places) {
            String kind = operands(at(p, i));
            if (localOf(p, i) >= p.locals
                    || kind.equals("s") && (word(p, i) < 0 || word(p, i) > 7)
                    || kind.equals("m") && (word(p, i) < 0 || word(p, i) >= parts.size())
                    || kind.equals("a") && at(p, i + 1) != 10
                    || kind.equals("j") && !places.contains(i + word(p, i))) {
                return null;
            }
        }
        for (int[] h : p.handlers) {
            boolean right = places.contains(h[0]) && (places.contains(h[1]) || h[1] == p.length)
                    && h[0] < h[1] && places.contains(h[2]) && h[3] >= 0 && h[3] <= 4;
            if (!right) {
                return null;
            }
        }
        return places;
    }

    /** A state: the locals' text of I, R, N, and the stack's. */
    private Map<Integer, String[]> flow(Part p, List<Integer> places) {
        Map<Integer, String[]> states = new TreeMap<>();
        states.put(0, new String[] {"I".repeat(p.arguments) + "N".repeat(p.locals - p.arguments), ""});
        boolean changed = true;
        while (changed) {
            changed = false;
            for (int place : places) {
                String[] before = states.get(place);
                if (before == null) {
                    continue;
                }
                String[] after = after(p, place, before);
                if (after == null || after[1].length() > p.height) {
                    return null;
                }
                List<Object[]> coming = new ArrayList<>();
                int op = at(p, place);
                if (operands(op).equals("j")) {
                    coming.add(new Object[] {place + word(p, place), after[0], after[1]});
                }
                if (op != 167 && op != 172 && op != 177) {
                    coming.add(new Object[] {place + size(op), after[0], after[1]});
                }
                for (int[] h : p.handlers) {
                    if (h[0] <= place && place < h[1]) {
                        if (p.height < 1) {
                            return null;
                        }
                        coming.add(new Object[] {h[2], before[0], "I"});
                        coming.add(new Object[] {h[2], after[0], "I"});
                    }
                }
                for (Object[] c : coming) {
                    int to = (Integer) c[0];
                    if (to == p.length) {
                        return null;
                    }
                    String[] had = states.get(to);
                    String[] now = {(String) c[1], (String) c[2]};
                    if (had != null) {
                        if (!had[1].equals(now[1])) {
                            return null;
                        }
                        now[0] = common(had[0], now[0]);
                    }
                    if (had == null || !had[0].equals(now[0])) {
                        states.put(to, now);
                        changed = true;
                    }
                }
            }
        }
        return states;
    }

    private static String common(String a, String b) {
        StringBuilder both = new StringBuilder();
        for (int i = 0; i < a.length(); i++) {
            both.append(a.charAt(i) == b.charAt(i) ? a.charAt(i) : 'N');
        }
        return both.toString();
    }

    private String[] after(Part p, int place, String[] before) {
        int op = at(p, place);
        String locals = before[0];
        String stack = before[1];
        String takes = takes(op);
        String puts = puts(op);
        if (op == 172 && !p.givesInt || op == 177 && p.givesInt) {
            return null;
        }
        if (op == 184) {
            Part called = parts.get(word(p, place));
            takes = "I".repeat(called.arguments);
            puts = called.givesInt ? "I" : "";
        }
        if (stack.length() < takes.length()) {
            return null;
        }
        String taken = stack.substring(stack.length() - takes.length());
        for (int i = 0; i < takes.length(); i++) {
            if (takes.charAt(i) != 'A' && takes.charAt(i) != taken.charAt(i)) {
                return null;
            }
        }
        if (op == 89) {
            puts = taken + taken;
        }
        if (op == 95) {
            puts = "" + taken.charAt(1) + taken.charAt(0);
        }
        int n = localOf(p, place);
        if (n >= 0) {
            char due = op == 132 ? 'I' : (puts + takes).charAt(0);
            if (takes.isEmpty() && locals.charAt(n) != due) {
                return null;
            }
            if (!takes.isEmpty()) {
                locals = locals.substring(0, n) + due + locals.substring(n + 1);
            }
        }
        return new String[] {locals, stack.substring(0, stack.length() - takes.length()) + puts};
    }

    boolean argument(int v) {
        return given.size() < 4 && given.add(v);
    }

    boolean start(int m) {
        if (m < 0 || m >= parts.size() || parts.get(m).arguments != given.size()) {
            throw new IllegalArgumentException();
        }
        if (!verified) {
            throw new IllegalStateException();
        }
        levels.clear();
        heap.clear();
        Arrays.fill(statics, 0);
        state = 1;
        result = 0;
        enter(m, new ArrayList<>(given));
        given.clear();
        return true;
    }

    private void enter(int m, List<Object> arguments) {
        Level level = new Level();
        level.part = m;
        level.locals = new Object[parts.get(m).locals];
        for (int i = 0; i < arguments.size(); i++) {
            level.locals[i] = arguments.get(i);
        }
        levels.add(level);
    }

    int run(int n) {
        if (n < 0 || n > 100) {
            throw new IllegalArgumentException();
        }
        int steps = 0;
        while (steps < n && state == 1) {
            try {
                step();
            } catch (Wrong e) {
                if (e.state > 6 || !isCaught(e.state - 2)) {
                    state = e.state;
                    levels.clear();
                }
            }
            steps++;
        }
        return steps;
    }

    private int caughtCount;

    /** How often a handler was found. */
    int caughtCount() {
        return caughtCount;
    }

    private boolean isCaught(int kind) {
        while (!levels.isEmpty()) {
            Level level = levels.get(levels.size() - 1);
            for (int[] h : parts.get(level.part).handlers) {
                if (h[0] <= level.place && level.place < h[1] && (h[3] == 0 || h[3] == kind)) {
                    level.place = h[2];
                    level.stack.clear();
                    level.stack.add(kind);
                    caughtCount++;
                    return true;
                }
            }
            levels.remove(levels.size() - 1);
        }
        return false;
    }

    private int[] array(Object ref) throws Wrong {
        if (ref == NULL) {
            throw new Wrong(4);
        }
        return (int[]) ref;
    }

    private int[] array(Object ref, int index) throws Wrong {
        int[] a = array(ref);
        if (index < 0 || index >= a.length) {
            throw new Wrong(5);
        }
        return a;
    }

    private static boolean isSo(int relation, int sign) {
        boolean[] so = {sign == 0, sign != 0, sign < 0, sign >= 0, sign > 0, sign <= 0};
        return so[relation];
    }

    private void step() throws Wrong {
        Level level = levels.get(levels.size() - 1);
        Part p = parts.get(level.part);
        int place = level.place;
        int op = at(p, place);
        String takes = takes(op);
        int count = op == 184 ? parts.get(word(p, place)).arguments : takes.length();
        List<Object> top = level.stack.subList(level.stack.size() - count, level.stack.size());
        List<Object> taken = new ArrayList<>(top);
        int next = place + size(op);
        int n = localOf(p, place);
        Object put = null;
        if (op == 1) {
            put = NULL;
        } else if (op >= 2 && op <= 8) {
            put = op - 3;
        } else if (op == 16) {
            put = signed(at(p, place + 1));
        } else if (op == 17) {
            put = word(p, place);
        } else if (op == 132) {
            level.locals[n] = (Integer) level.locals[n] + signed(at(p, place + 2));
        } else if (n >= 0 && takes.isEmpty()) {
            put = level.locals[n];
        } else if (n >= 0) {
            level.locals[n] = taken.get(0);
        } else if (op == 46) {
            put = array(taken.get(0), (Integer) taken.get(1))[(Integer) taken.get(1)];
        } else if (op == 79) {
            array(taken.get(0), (Integer) taken.get(1))[(Integer) taken.get(1)] = (Integer) taken.get(2);
        } else if (op == 188) {
            put = made((Integer) taken.get(0));
        } else if (op == 190) {
            put = array(taken.get(0)).length;
        } else if (takes.equals("II") && !operands(op).equals("j")) {
            put = calculated(op, (Integer) taken.get(0), (Integer) taken.get(1));
        } else if (op == 116) {
            put = -(Integer) taken.get(0);
        } else if (op == 178) {
            put = statics[word(p, place)];
        } else if (op == 179) {
            statics[word(p, place)] = (Integer) taken.get(0);
        } else if (operands(op).equals("j") && jumps(op, taken)) {
            next = place + word(p, place);
        }
        if (op == 184) {
            int cells = 0;
            for (Level l : levels) {
                cells += parts.get(l.part).locals + parts.get(l.part).height + 1;
            }
            Part called = parts.get(word(p, place));
            if (cells + called.locals + called.height + 1 > 80) {
                throw new Wrong(7);
            }
            top.clear();
            enter(word(p, place), taken);
            return;
        }
        top.clear();
        if (op == 172 || op == 177) {
            levels.remove(levels.size() - 1);
            if (levels.isEmpty()) {
                state = 2;
                result = op == 172 ? (Integer) taken.get(0) : 0;
                return;
            }
            Level caller = levels.get(levels.size() - 1);
            caller.stack.addAll(taken);
            caller.place += 3;
            return;
        }
        if (op == 89) {
            level.stack.add(taken.get(0));
            level.stack.add(taken.get(0));
        }
        if (op == 95) {
            level.stack.add(taken.get(1));
            level.stack.add(taken.get(0));
        }
        if (put != null) {
            level.stack.add(put);
        }
        level.place = next;
    }

    private int[] made(int length) throws Wrong {
        if (length < 0) {
            throw new Wrong(6);
        }
        if ((long) length + 1 + taken() > 120) {
            throw new Wrong(8);
        }
        heap.add(new int[length]);
        return heap.get(heap.size() - 1);
    }

    private int taken() {
        return heap.stream().mapToInt(a -> a.length + 1).sum();
    }

    private static int calculated(int op, int a, int b) throws Wrong {
        if ((op == 108 || op == 112) && b == 0) {
            throw new Wrong(3);
        }
        long shift = Math.floorMod(b, 32);
        switch (op) {
            case 96: return (int) ((long) a + b);
            case 100: return (int) ((long) a - b);
            case 104: return (int) ((long) a * b);
            case 108: return (int) ((long) a / b);
            case 112: return (int) ((long) a % b);
            case 120: return (int) ((long) a << shift);
            case 122: return (int) ((long) a >> shift);
            case 124: return (int) ((a & 0xffffffffL) >> shift);
            case 126: return a & b;
            case 128: return a | b;
            default: return a ^ b;
        }
    }

    private static boolean jumps(int op, List<Object> taken) {
        if (op == 167) {
            return true;
        }
        if (op >= 198) {
            return (taken.get(0) == NULL) == (op == 198);
        }
        if (op >= 165) {
            return (taken.get(0) == taken.get(1)) == (op == 165);
        }
        if (op >= 159) {
            return isSo(op - 159, Integer.compare((Integer) taken.get(0), (Integer) taken.get(1)));
        }
        return isSo(op - 153, Integer.compare((Integer) taken.get(0), 0));
    }

    int state() {
        return state;
    }

    int result() {
        return result;
    }

    int depth() {
        return levels.size();
    }

    int frame(int k, int what) {
        if (k < 0 || k >= levels.size() || what < 0 || what > 2) {
            return -1;
        }
        Level level = levels.get(levels.size() - 1 - k);
        return new int[] {level.part, level.place, level.stack.size()}[what];
    }

    private int shown(Object v) {
        if (v == null) {
            return 0;
        }
        if (v == NULL) {
            return -1;
        }
        if (v instanceof Integer) {
            return (Integer) v;
        }
        int before = 0;
        for (int[] a : heap) {
            if (a == v) {
                return before;
            }
            before += a.length + 1;
        }
        throw new IllegalStateException("a REF that is nowhere");
    }

    int local(int n) {
        if (levels.isEmpty()) {
            return 0;
        }
        Object[] locals = levels.get(levels.size() - 1).locals;
        return n < 0 || n >= locals.length ? 0 : shown(locals[n]);
    }

    int stack(int k) {
        if (levels.isEmpty()) {
            return 0;
        }
        List<Object> stack = levels.get(levels.size() - 1).stack;
        return k < 0 || k >= stack.size() ? 0 : shown(stack.get(stack.size() - 1 - k));
    }

    int getStatic(int i) {
        return i < 0 || i > 7 ? 0 : statics[i];
    }

    int heap(int k) {
        if (k == -1) {
            return taken();
        }
        ArrayDeque<Integer> cells = new ArrayDeque<>();
        for (int[] a : heap) {
            cells.add(a.length);
            for (int v : a) {
                cells.add(v);
            }
        }
        int at = 0;
        for (int v : cells) {
            if (at == k) {
                return v;
            }
            at++;
        }
        return 0;
    }

    int type(int m, int place, int k) {
        if (!verified || m < 0 || m >= parts.size() || !parts.get(m).states.containsKey(place)) {
            return -1;
        }
        String[] types = parts.get(m).states.get(place);
        String all = types[0] + types[1];
        return k < 0 || k >= all.length() ? -1 : "NIR".indexOf(all.charAt(k));
    }
}
