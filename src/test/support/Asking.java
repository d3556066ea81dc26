/** What the tests share: asking a drawing, counting the answers that are not as due, telling its state as a text. */
abstract class Asking {
    interface Call {
        Object run();
    }

    static final String INDEX = "IndexOutOfBoundsException";
    static final String ARGUMENT = "IllegalArgumentException";
    static final String STATE = "IllegalStateException";
    static final int LOW = Integer.MIN_VALUE;
    static final int HIGH = Integer.MAX_VALUE;
    static final int WIDTH = 64;
    static final int HEIGHT = 48;
    static final int TILES = 48;

    private static int wrong = 0;
    private static int asked = 0;

    /** The answer, or the name of what was thrown; what the machine or the library threw is told as such. */
    static Object answerOf(Call call) {
        try {
            return call.run();
        } catch (RuntimeException e) {
            StackTraceElement[] trace = e.getStackTrace();
            boolean isOwn = trace.length > 0 && trace[0].getClassName().startsWith("PaintLayers");
            return (isOwn ? "" : "not its own ") + e.getClass().getSimpleName();
        }
    }

    static void due(String what, Object want, Call call) {
        asked++;
        Object got = answerOf(call);
        if (!want.equals(got)) {
            wrong++;
            System.out.println(what + " answered " + got + ", due is " + want);
        }
    }

    /** The call throws this, and the digest is what it was (RefusedTests looks at all the rest). */
    static void refused(PaintLayers p, String what, String exception, Call call) {
        long before = p.digest();
        due(what, exception, call);
        due(what + " leaves the digest", before, () -> p.digest());
    }

    /** What node() tells of a node, joined. */
    static String told(PaintLayers p, int node) {
        StringBuilder all = new StringBuilder();
        for (int what = 0; what <= 12; what++) {
            all.append(what == 0 ? "" : " ").append(p.node(node, what));
        }
        return all.toString();
    }

    static String children(PaintLayers p, int group) {
        StringBuilder all = new StringBuilder();
        for (int i = 0; i < p.node(group, 3); i++) {
            all.append(i == 0 ? "" : " ").append(p.child(group, i));
        }
        return all.toString();
    }

    static String extents(PaintLayers p, int node) {
        StringBuilder all = new StringBuilder();
        for (int what = 0; what <= 4; what++) {
            all.append(what == 0 ? "" : " ").append(p.extent(node, what));
        }
        return all.toString();
    }

    /** Adds groups until no more nodes can come. */
    static void fillUp(PaintLayers p) {
        int last = 0;
        while (last < 39) {
            last = p.addGroup(0);
        }
    }

    static void end() {
        System.out.println(asked + " answers, " + wrong + " of them not as due");
        if (wrong != 0) {
            System.exit(1);
        }
    }
}
