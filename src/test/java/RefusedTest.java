import java.util.ArrayList;
import java.util.List;
import java.util.Map;
import java.util.TreeMap;

/**
 * "Methods throw what their comments name, the one named first when several would do; a call that
 * throws changes nothing."
 */
public final class RefusedTest {
    private static final Check CHECK = new Check();

    private static final String[] OF_ONE = {"begin", "keep", "recall", "band", "distance", "steps", "search", "guess",
        "count", "push", "scan", "shift"};
    private static final String[] OF_TWO = {"ask", "bound", "pair"};

    /** Each limit of the document with its neighbours, and int's ends. */
    private static final int[] EDGES = {Integer.MIN_VALUE, Integer.MIN_VALUE + 1, -1001, -1000, -1, 0, 1, 2, 3, 4, 5,
        7, 8, 11, 12, 13, 15, 16, 17, 63, 64, 65, 1000, 1001, Integer.MAX_VALUE};
    private static final int[] FEWER = {Integer.MIN_VALUE, -1001, -1, 0, 1, 13, 17, 65, 1001, Integer.MAX_VALUE};

    public static void main(String[] args) {
        reasonsAtOnce();
        CHECK.sentence("methods throw what their comments name", RefusedTest::throwsWhatIsNamed);
        CHECK.sentence("a call that throws changes nothing", RefusedTest::changesNothing);
        CHECK.sentence("many calls that throw change nothing", RefusedTest::manyChangeNothing);
        CHECK.sentence("a call that only tells changes nothing", RefusedTest::tellingChangesNothing);
        CHECK.sentence("the picture shows every change", RefusedTest::changesAreSeen);
        CHECK.finish();
    }

    private static void reasonsAtOnce() {
        CHECK.sentence("ask: no such number before no such value", () -> {
            for (int i : new int[] {Integer.MIN_VALUE, -1, 2, 16, Integer.MAX_VALUE}) {
                for (int v : new int[] {Integer.MIN_VALUE, -1001, 1001, Integer.MAX_VALUE}) {
                    CHECK.refused("ask(" + i + ", " + v + ")", Check.INDEX, () -> new WarpSearch().ask(i, v));
                }
            }
        });
        CHECK.sentence("keep: no such label before 12 rows", () -> {
            for (int label : new int[] {Integer.MIN_VALUE, -1, 8, Integer.MAX_VALUE}) {
                CHECK.refused("keep(" + label + ")", Check.ARGUMENT, () -> Given.rows(12).keep(label));
            }
        });
        CHECK.sentence("bound: no such row before no such bound", () -> {
            for (int which : new int[] {Integer.MIN_VALUE, -1, 3, Integer.MAX_VALUE}) {
                CHECK.refused("no row, " + which, Check.INDEX, () -> new WarpSearch().bound(0, which));
                CHECK.refused("row -1, " + which, Check.INDEX, () -> Given.rows(12).bound(-1, which));
                CHECK.refused("row 12, " + which, Check.INDEX, () -> Given.rows(12).bound(12, which));
            }
        });
        CHECK.sentence("pair: no such row and no such pair", () -> {
            for (int k : new int[] {Integer.MIN_VALUE, -1, 2, Integer.MAX_VALUE}) {
                CHECK.refused("no row, " + k, Check.INDEX, () -> new WarpSearch().pair(0, k));
                CHECK.refused("row 12, " + k, Check.INDEX, () -> Given.rows(12).pair(12, k));
            }
        });
        for (int k : new int[] {Integer.MIN_VALUE, -1, 0, 13, Integer.MAX_VALUE}) {
            CHECK.sentence("search: no such k before no row", () ->
                CHECK.refused("search(" + k + ")", Check.ARGUMENT, () -> new WarpSearch().search(k)));
            CHECK.sentence("guess: no such k before no row", () ->
                CHECK.refused("guess(" + k + ")", Check.ARGUMENT, () -> new WarpSearch().guess(k)));
            CHECK.sentence("scan: no such k before no window", () ->
                CHECK.refused("scan(" + k + ")", Check.ARGUMENT, () -> Given.stream(16, 15).scan(k)));
        }
        CHECK.sentence("push: no such value before 64 numbers", () -> {
            for (int v : new int[] {Integer.MIN_VALUE, -1001, 1001, Integer.MAX_VALUE}) {
                CHECK.refused("push(" + v + ")", Check.ARGUMENT, () -> Given.stream(2, 64).push(v));
            }
        });
    }

    private static void throwsWhatIsNamed() {
        states().forEach((state, made) -> {
            for (Call call : calls(EDGES)) {
                WarpSearch program = new WarpSearch();
                made.forEach(before -> before.on(program));
                CHECK.same(state + ": " + call, call.on(program), due(made, call));
            }
        });
    }

    private static void changesNothing() {
        states().forEach((state, made) -> {
            List<List<String>> before = Picture.after(made);
            for (Call call : refused(made, FEWER)) {
                unchanged(state + ": behind " + call, before, with(made, List.of(call)));
            }
        });
    }

    /** So many behind one another that small changes, if there were some, would gather. */
    private static void manyChangeNothing() {
        states().forEach((state, made) -> {
            List<List<String>> before = Picture.after(made);
            List<Call> all = refused(made, FEWER);
            int room = Picture.room() - made.size();
            for (int from = 0; from < all.size(); from += room) {
                List<Call> some = all.subList(from, Math.min(from + room, all.size()));
                unchanged(state + ": behind the refused calls from " + from + " on", before, with(made, some));
            }
        });
    }

    private static void tellingChangesNothing() {
        states().forEach((state, made) -> {
            List<List<String>> before = Picture.after(made);
            for (Call call : List.of(Call.of("distance", 0), Call.of("bound", 0, 1), Call.of("bound", 1, 2),
                    Call.of("steps", 1), Call.of("pair", 0, 1), Call.of("found", 0, 0), Call.of("found", 0, 1),
                    Call.of("count", 3), Call.of("shift", 0))) {
                unchanged(state + ": behind " + call, before, with(made, List.of(call)));
            }
        });
    }

    private static void unchanged(String what, List<List<String>> before, List<Call> made) {
        CHECK.same(what + ", what differs", Picture.difference(Picture.after(made), before), "none");
    }

    /** Else a picture that stays the same would say little. */
    private static void changesAreSeen() {
        List<Call> changes = new ArrayList<>(List.of(Call.of("begin", 3), Call.of("keep", 5), Call.of("recall", 0),
                Call.of("band", 1), Call.of("search", 1), Call.of("guess", 2), Call.of("scan", 1),
                Call.of("push", 0), Call.of("shift", 1)));
        for (int i = 0; i < 3; i++) {
            changes.add(Call.of("ask", i, 77));
        }
        changes.forEach(change -> isSeen("some rows", change));
        for (Call change : List.of(Call.of("begin", 8), Call.of("recall", 3), Call.of("shift", 1),
                Call.of("ask", 7, 77), Call.of("search", 11))) {
            isSeen("full", change);
        }
    }

    private static void isSeen(String state, Call change) {
        List<Call> made = states().get(state);
        List<List<String>> after = Picture.after(with(made, List.of(change)));
        CHECK.same(state + ": " + change + " is seen", after.equals(Picture.after(made)), false);
    }

    /** Where objects stand when a call is refused, told by the calls that bring them there. */
    private static Map<String, List<Call>> states() {
        Map<String, List<Call>> states = new TreeMap<>();
        states.put("new", List.of());
        states.put("some rows", someRows());
        states.put("full", full());
        states.put("rows searched, no window", rowsAndNoWindow());
        states.put("windows searched, no row", windowsAndNoRow());
        List<Call> begun = new ArrayList<>(someRows());
        begun.add(Call.of("begin", 4));
        states.put("begun again", begun);
        return states;
    }

    private static List<Call> someRows() {
        List<Call> made = new ArrayList<>(List.of(Call.of("begin", 3), Call.of("band", 2)));
        addRows(made, 3, 4);
        addStream(made, 5);
        made.add(Call.of("search", 3));
        return made;
    }

    private static List<Call> full() {
        List<Call> made = new ArrayList<>(List.of(Call.of("begin", 8), Call.of("band", 15)));
        addRows(made, 8, 12);
        addStream(made, 64);
        made.add(Call.of("search", 12));
        return made;
    }

    private static List<Call> rowsAndNoWindow() {
        List<Call> made = new ArrayList<>(List.of(Call.of("begin", 16), Call.of("band", 1)));
        addRows(made, 16, 2);
        addStream(made, 15);
        made.add(Call.of("search", 1));
        return made;
    }

    private static List<Call> windowsAndNoRow() {
        List<Call> made = new ArrayList<>(List.of(Call.of("begin", 3)));
        addStream(made, 6);
        made.add(Call.of("ask", 0, 9));
        made.add(Call.of("scan", 2));
        return made;
    }

    private static void addRows(List<Call> made, int n, int many) {
        for (int row = 0; row < many; row++) {
            for (int i = 0; i < n; i++) {
                made.add(Call.of("ask", i, (37 * row + 11 * i * i) % 100 - 50));
            }
            made.add(Call.of("keep", (row + 3) % 8));
        }
        // Else a refused call that writes the question into the last row would not be seen.
        for (int i = 0; i < n; i++) {
            made.add(Call.of("ask", i, 60 + i));
        }
    }

    private static void addStream(List<Call> made, int many) {
        for (int place = 0; place < many; place++) {
            made.add(Call.of("push", Picture.streamNumber(place)));
        }
    }

    private static List<Call> calls(int[] numbers) {
        List<Call> all = new ArrayList<>();
        for (int a : numbers) {
            for (String name : OF_ONE) {
                all.add(Call.of(name, a));
            }
            for (int b : numbers) {
                for (String name : OF_TWO) {
                    all.add(Call.of(name, a, b));
                }
            }
            all.add(Call.of("found", a, 0));
            all.add(Call.of("found", a, 1));
        }
        return all;
    }

    private static List<Call> refused(List<Call> made, int[] numbers) {
        return calls(numbers).stream().filter(call -> due(made, call).startsWith("throws.")).toList();
    }

    private static String due(List<Call> made, Call call) {
        Model model = new Model();
        made.forEach(before -> before.on(model));
        return call.on(model);
    }

    private static List<Call> with(List<Call> made, List<Call> more) {
        List<Call> all = new ArrayList<>(made);
        all.addAll(more);
        return all;
    }
}
