import java.util.concurrent.Callable;

/** Counts the answers that are not the ones that are due. */
final class Check {
    static final String ARGUMENT = "throws.IllegalArgumentException";
    static final String STATE = "throws.IllegalStateException";

    private static int wrong = 0;
    private static int checked = 0;

    private Check() {
    }

    static String answer(Callable<Object> call) {
        try {
            return String.valueOf(call.call());
        } catch (Exception e) {
            return "throws." + e.getClass().getSimpleName();
        }
    }

    static void due(String what, Object want, Callable<Object> call) {
        String got = answer(call);
        checked++;
        if (!got.equals(String.valueOf(want))) {
            wrong++;
            if (wrong <= 50) {
                System.out.println(what + " answered " + got + ", due is " + want);
            }
        }
    }

    static void due(String what, Object want, Object got) {
        due(what, want, () -> got);
    }

    static FrameWalk fed(int... bytes) {
        FrameWalk x = new FrameWalk();
        feed(x, bytes);
        return x;
    }

    static void feed(FrameWalk x, int... bytes) {
        for (int b : bytes) {
            x.feed(b);
        }
    }

    /** One method of all the bytes, not yet verified. */
    static FrameWalk one(int arguments, int locals, int height, boolean givesInt, int... bytes) {
        FrameWalk x = fed(bytes);
        x.method(bytes.length, arguments, locals, height, givesInt);
        return x;
    }

    static void start(FrameWalk x, int m, int... arguments) {
        for (int v : arguments) {
            x.argument(v);
        }
        x.start(m);
    }

    /** Up to 2,000 steps. */
    static void finish(FrameWalk x) {
        for (int i = 0; i < 20 && x.state() == 1; i++) {
            x.run(100);
        }
    }

    static void end(String name) {
        System.out.println(name + ": " + checked + " answers, " + wrong + " not as due");
        if (wrong != 0) {
            System.exit(1);
        }
    }
}
