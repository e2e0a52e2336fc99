import java.util.concurrent.Callable;

/** Counts the answers that are not the ones that are due. */
final class Check {
    static final String ARGUMENT = "throws.IllegalArgumentException";
    static final String STATE = "throws.IllegalStateException";

    private static int wrong = 0;
    private static int checked = 0;
    private static int sentences = 0;
    private static String sentence = "";

    private Check() {
    }

    static String answer(Callable<Object> call) {
        try {
            return String.valueOf(call.call());
        } catch (Exception e) {
            return "throws." + e.getClass().getSimpleName();
        }
    }

    /** A sentence of the document in its own words, and the test of it: what fails in the test names the sentence. */
    static void sentence(String words, Runnable test) {
        sentences++;
        sentence = "\"" + words + "\": ";
        try {
            test.run();
        } catch (RuntimeException e) {
            tellWrong("the test itself ended with " + e);
        }
        sentence = "";
    }

    static void due(String what, Object want, Callable<Object> call) {
        String got = answer(call);
        checked++;
        if (!got.equals(String.valueOf(want))) {
            tellWrong(what + " answered " + got + ", due is " + want);
        }
    }

    private static void tellWrong(String text) {
        wrong++;
        if (wrong <= 50) {
            System.out.println(sentence + text);
        }
    }

    static void due(String what, Object want, Object got) {
        due(what, want, () -> got);
    }

    static FrameWalk fed(int... bytes) {
        FrameWalk x = new FrameWalk();
        feed(x, bytes);
        return x;
    }

    static void feed(FrameWalk x, int... bytes) {
        for (int b : bytes) {
            x.feed(b);
        }
    }

    /** One method of all the bytes, not yet verified. */
    static FrameWalk one(int arguments, int locals, int height, boolean givesInt, int... bytes) {
        FrameWalk x = fed(bytes);
        x.method(bytes.length, arguments, locals, height, givesInt);
        return x;
    }

    /** One method of all the bytes, without arguments and locals, that gives nothing. */
    static FrameWalk fedMethod(int height, int... bytes) {
        return one(0, 0, height, false, bytes);
    }

    static FrameWalk verified(FrameWalk x) {
        x.verify();
        return x;
    }

    /** What verify thinks of it: how many states, or which method has no shape or no flow. */
    static String verdict(FrameWalk x) {
        String answer = answer(() -> x.verify());
        if (!answer.equals(ARGUMENT)) {
            return answer;
        }
        return (x.fault() % 2 == 0 ? "no shape in " : "no flow in ") + x.fault() / 2;
    }

    /** How a run of method 0 ends. */
    static String outcome(FrameWalk x, int... arguments) {
        start(x, 0, arguments);
        finish(x);
        return x.state() == 2 ? "gives " + x.result() : "state " + x.state();
    }

    static void start(FrameWalk x, int m, int... arguments) {
        for (int v : arguments) {
            x.argument(v);
        }
        x.start(m);
    }

    /** Up to 2,000 steps. */
    static void finish(FrameWalk x) {
        for (int i = 0; i < 20 && x.state() == 1; i++) {
            x.run(100);
        }
    }

    static void end(String name) {
        String of = sentences == 0 ? "" : " of " + sentences + " sentences";
        System.out.println(name + ": " + checked + " answers" + of + ", " + wrong + " not as due");
        if (wrong != 0) {
            System.exit(1);
        }
    }
}
