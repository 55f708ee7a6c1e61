/** Long runs of calls, drawn by a fixed rule, whose every outcome must be that of the model. */
public final class ModelTest {
    private static final int RUNS = 400;
    private static final int CALLS = 512;
    private static final int[] ODD = {-1, Integer.MIN_VALUE, Integer.MAX_VALUE, 17, 65, 1001, -1001};

    private final Check check;
    private final int run;
    private final WarpSearch program = new WarpSearch();
    private final Model model = new Model();
    private final int spread;
    private final int oddOneIn;
    private final int beginOneIn;
    private long seed;

    private ModelTest(Check check, int run) {
        this.check = check;
        this.run = run;
        this.seed = 0x9E3779B97F4A7C15L * (run + 1);
        this.spread = new int[] {1, 2, 5, 30, 1000}[run % 5];
        this.oddOneIn = run % 3 == 0 ? 8 : 200;
        this.beginOneIn = run % 2 == 0 ? 12 : 3;
    }

    public static void main(String[] args) {
        Check check = new Check();
        for (int run = 0; run < RUNS; run++) {
            new ModelTest(check, run).play();
        }
        check.finish();
    }

    private void play() {
        same("begin", () -> done(() -> program.begin(2 + run % 15)), () -> done(() -> model.begin(2 + run % 15)));
        for (int call = 1; call < CALLS; call++) {
            one(draw(24));
        }
    }

    private void one(int kind) {
        int row = pick(0, 12);
        int k = pick(1, 12);
        int v = pick(-spread, spread);
        int i = pick(0, 15);
        switch (kind) {
            case 0 -> maybeBegin();
            case 1, 2, 3, 4, 5 -> same("ask " + i + " " + v, () -> program.ask(i, v), () -> model.ask(i, v));
            case 6, 7 -> keep();
            case 8 -> same("recall " + row, () -> done(() -> program.recall(row)), () -> done(() -> model.recall(row)));
            case 9 -> band();
            case 10 -> same("distance " + row, () -> program.distance(row), () -> model.distance(row));
            case 11 -> bound(row);
            case 12 -> same("steps " + row, () -> program.steps(row), () -> model.steps(row));
            case 13 -> pair(row);
            case 14, 15 -> same("search " + k, () -> program.search(k), () -> model.search(k));
            case 16 -> found();
            case 17 -> same("guess " + k, () -> program.guess(k), () -> model.guess(k));
            case 18 -> count();
            case 19, 20, 21 -> same("push " + v, () -> program.push(v), () -> model.push(v));
            case 22 -> same("scan " + k, () -> program.scan(k), () -> model.scan(k));
            default -> shift();
        }
    }

    private void maybeBegin() {
        if (draw(beginOneIn) == 0) {
            int n = pick(2, 16);
            same("begin " + n, () -> done(() -> program.begin(n)), () -> done(() -> model.begin(n)));
        }
    }

    private void keep() {
        int label = pick(0, 7);
        same("keep " + label, () -> program.keep(label), () -> model.keep(label));
    }

    private void band() {
        int w = draw(2) == 0 ? pick(0, 3) : pick(0, 15);
        same("band " + w, () -> program.band(w), () -> model.band(w));
    }

    private void bound(int row) {
        int which = pick(0, 3);
        same("bound " + row + " " + which, () -> program.bound(row, which), () -> model.bound(row, which));
    }

    private void pair(int row) {
        int at = pick(0, 31);
        same("pair " + row + " " + at, () -> program.pair(row, at), () -> model.pair(row, at));
    }

    /** Whole lists at once, since one place of them tells little. */
    private void found() {
        for (int i = 0; i <= 12; i++) {
            int at = i;
            same("found " + i, () -> program.found(at, false), () -> model.found(at, false));
            same("found distance " + i, () -> program.found(at, true), () -> model.found(at, true));
        }
    }

    private void count() {
        for (int i = 0; i <= 5; i++) {
            int what = i;
            same("count " + i, () -> program.count(what), () -> model.count(what));
        }
    }

    private void shift() {
        int many = pick(0, 6);
        same("shift " + many, () -> done(() -> program.shift(many)), () -> done(() -> model.shift(many)));
    }

    private void same(String what, Check.Call got, Check.Call due) {
        check.same("run " + run + ": " + what, Check.outcome(got), Check.outcome(due));
    }

    private static int done(Check.Deed deed) {
        deed.happen();
        return 0;
    }

    /** Mostly a number from low to high, now and then one that no call takes. */
    private int pick(int low, int high) {
        return draw(oddOneIn) == 0 ? ODD[draw(ODD.length)] : low + draw(high - low + 1);
    }

    private int draw(int many) {
        seed = seed * 6364136223846793005L + 1442695040888963407L;
        return (int) Long.remainderUnsigned(seed >>> 33, many);
    }
}
