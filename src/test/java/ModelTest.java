/** Long runs of calls, drawn by a fixed rule, whose every outcome must be that of the model. */
public final class ModelTest {
    private static final int RUNS = 800;
    /** Nothing is promised of an object behind so many calls. */
    private static final int CALLS = 512;
    private static final int[] ODD = {-1, 0, 5, 8, 13, 16, 17, 65, -1001, 1001, Integer.MIN_VALUE, Integer.MAX_VALUE};

    private final Check check;
    private final int run;
    private final WarpSearch program = new WarpSearch();
    private final Model model = new Model();
    private final int spread;
    private final int oddOneIn;
    private final int beginOneIn;
    private int calls = 0;
    private long seed;

    private ModelTest(Check check, int run) {
        this.check = check;
        this.run = run;
        this.seed = 0x9E3779B97F4A7C15L * (run + 1);
        this.spread = new int[] {1, 2, 5, 30, 1000}[run % 5];
        this.oddOneIn = run % 3 == 0 ? 8 : 200;
        this.beginOneIn = run % 2 == 0 ? 12 : 3;
    }

    public static void main(String[] args) {
        Check check = new Check();
        for (int run = 0; run < RUNS; run++) {
            new ModelTest(check, run).play();
        }
        check.finish();
    }

    private void play() {
        make("begin", 2 + run % 15, 0);
        // The draws alone seldom fill the stream.
        for (int i = 0; i < 60 && run % 4 == 3; i++) {
            make("push", pick(-spread, spread), 0);
        }
        while (calls < CALLS) {
            one(draw(24));
        }
    }

    private void one(int kind) {
        switch (kind) {
            case 0 -> maybeBegin();
            case 1, 2, 3, 4, 5 -> make("ask", pick(0, 15), pick(-spread, spread));
            case 6, 7 -> make("keep", pick(0, 7), 0);
            case 8 -> make("recall", pick(0, 12), 0);
            case 9 -> make("band", draw(2) == 0 ? pick(0, 3) : pick(0, 15), 0);
            case 10 -> make("distance", pick(0, 12), 0);
            case 11 -> make("bound", pick(0, 12), pick(0, 3));
            case 12 -> make("steps", pick(0, 12), 0);
            case 13 -> make("pair", pick(0, 12), pick(0, 31));
            case 14, 15 -> make("search", pick(1, 12), 0);
            case 16 -> wholeList();
            case 17 -> make("guess", pick(1, 12), 0);
            case 18 -> allCounts();
            case 19, 20, 21 -> make("push", pick(-spread, spread), 0);
            case 22 -> make("scan", pick(1, 12), 0);
            default -> make("shift", pick(0, 6), 0);
        }
    }

    private void maybeBegin() {
        if (draw(beginOneIn) == 0) {
            make("begin", pick(2, 16), 0);
        }
    }

    /** The whole list at once, since one place of it tells little. */
    private void wholeList() {
        for (int i = 0; i <= 12; i++) {
            make("found", i, 0);
            make("found", i, 1);
        }
    }

    private void allCounts() {
        for (int what = 0; what <= 4; what++) {
            make("count", what, 0);
        }
    }

    private void make(String name, int a, int b) {
        if (calls < CALLS) {
            calls++;
            Call call = Call.of(name, a, b);
            check.same("run " + run + ", call " + calls + ": " + call, call.on(program), call.on(model));
        }
    }

    /** Mostly a number from low to high, now and then one that few calls take. */
    private int pick(int low, int high) {
        return draw(oddOneIn) == 0 ? ODD[draw(ODD.length)] : low + draw(high - low + 1);
    }

    private int draw(int many) {
        seed = seed * 6364136223846793005L + 1442695040888963407L;
        return (int) Long.remainderUnsigned(seed >>> 33, many);
    }
}
