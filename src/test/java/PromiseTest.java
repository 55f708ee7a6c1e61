/** Each promise by hand: ordinary inputs, the edges that the document names, and wrong inputs. */
public final class PromiseTest {
    private static final Class<IllegalArgumentException> ARGUMENT = Check.ARGUMENT;
    private static final Class<IndexOutOfBoundsException> INDEX = Check.INDEX;
    private static final Class<IllegalStateException> STATE = Check.STATE;

    private static final Check CHECK = new Check();

    public static void main(String[] args) {
        newObject();
        begin();
        ask();
        keep();
        recall();
        band();
        distance();
        bound();
        path();
        search();
        searchPassesOverAndGivesUp();
        found();
        guess();
        count();
        push();
        scan();
        shift();
        refusedCallsChangeNothing();
        CHECK.finish();
    }

    /** Promise 1. */
    private static void newObject() {
        WarpSearch x = new WarpSearch();
        same("1 question 0", x.ask(0, 0), 0);
        same("1 question 1", x.ask(1, 0), 0);
        CHECK.refused("1 two numbers", INDEX, () -> x.ask(2, 0));
        same("1 band", x.band(0), 0);
        CHECK.refused("1 no row", INDEX, () -> x.distance(0));
        CHECK.refused("1 no list", INDEX, () -> x.found(0, false));
        for (int what = 0; what <= 4; what++) {
            same("1 count " + what, x.count(what), 0);
        }
        CHECK.refused("1 no stream", ARGUMENT, () -> x.shift(1));
        same("1 objects stand alone", x.push(4), 1);
        same("1 another object", new WarpSearch().push(4), 1);
    }

    /** Promise 2. */
    private static void begin() {
        for (int n : new int[] {1, 0, -1, 17, Integer.MIN_VALUE, Integer.MAX_VALUE}) {
            CHECK.refused("2 begin " + n, ARGUMENT, () -> new WarpSearch().begin(n));
        }
        WarpSearch x = asking(3, 7, 8, 9);
        x.keep(1);
        x.band(2);
        x.push(5);
        x.search(1);
        x.begin(16);
        for (int i = 0; i < 16; i++) {
            same("2 question of zeros " + i, x.ask(i, 1), 0);
        }
        CHECK.refused("2 no number 16", INDEX, () -> x.ask(16, 0));
        CHECK.refused("2 no row", INDEX, () -> x.distance(0));
        CHECK.refused("2 no row to search", STATE, () -> x.search(1));
        CHECK.refused("2 no list", INDEX, () -> x.found(0, true));
        same("2 band stays", x.band(0), 2);
        same("2 stream stays", x.push(6), 2);
        same("2 counts stay", x.count(3), 1);
        x.begin(2);
        same("2 zeros again", x.ask(0, 0), 0);
        same("2 rows from 0 again", x.keep(0), 0);
    }

    /** Promise 3. */
    private static void ask() {
        WarpSearch x = new WarpSearch();
        same("3 first", x.ask(1, -1000), 0);
        same("3 what it was", x.ask(1, 1000), -1000);
        same("3 what it was then", x.ask(1, 0), 1000);
        same("3 the other one", x.ask(0, 0), 0);
        for (int i : new int[] {-1, 2, 16, Integer.MIN_VALUE, Integer.MAX_VALUE}) {
            CHECK.refused("3 number " + i, INDEX, () -> x.ask(i, 0));
            CHECK.refused("3 number before value " + i, INDEX, () -> x.ask(i, 1001));
        }
        for (int v : new int[] {-1001, 1001, Integer.MIN_VALUE, Integer.MAX_VALUE}) {
            CHECK.refused("3 value " + v, ARGUMENT, () -> x.ask(0, v));
        }
    }

    /** Promise 4. */
    private static void keep() {
        WarpSearch x = asking(2, 3, 4);
        for (int label : new int[] {-1, 8, Integer.MIN_VALUE, Integer.MAX_VALUE}) {
            CHECK.refused("4 label " + label, ARGUMENT, () -> x.keep(label));
        }
        for (int row = 0; row < 12; row++) {
            same("4 row", x.keep(row % 8), row);
        }
        CHECK.refused("4 thirteenth", STATE, () -> x.keep(0));
        CHECK.refused("4 label first", ARGUMENT, () -> x.keep(8));
        x.ask(0, 5);
        same("4 a row does not follow the question", x.distance(0), 4);
        same("4 nor does the last one", x.distance(11), 4);
    }

    /** Promise 5. */
    private static void recall() {
        WarpSearch x = asking(3, 1, 2, 3);
        x.keep(0);
        set(x, 4, 5, 6);
        x.keep(1);
        x.recall(0);
        same("5 row 0 is the question", x.distance(0), 0);
        same("5 its number", x.ask(2, 9), 3);
        same("5 the row stays", x.distance(0), 36);
        x.recall(1);
        same("5 row 1 is the question", x.ask(0, 4), 4);
        for (int row : new int[] {-1, 2, 12, Integer.MIN_VALUE, Integer.MAX_VALUE}) {
            CHECK.refused("5 row " + row, INDEX, () -> x.recall(row));
        }
    }

    /** Promise 6. */
    private static void band() {
        WarpSearch x = new WarpSearch();
        same("6 at first", x.band(15), 0);
        same("6 what it was", x.band(0), 15);
        same("6 again", x.band(3), 0);
        for (int w : new int[] {-1, 16, Integer.MIN_VALUE, Integer.MAX_VALUE}) {
            CHECK.refused("6 band " + w, ARGUMENT, () -> x.band(w));
        }
        same("6 nothing changed", x.band(3), 3);
    }

    /** Promise 7. */
    private static void distance() {
        WarpSearch x = asking(5, 0, 0, 0, 9, 0);
        x.keep(0);
        set(x, 0, 9, 0, 0, 0);
        same("7 band 0", x.distance(0), 162);
        x.band(1);
        same("7 band 1 is too narrow", x.distance(0), 162);
        x.band(2);
        same("7 band 2 reaches it", x.distance(0), 0);
        x.band(15);
        same("7 band 15", x.distance(0), 0);
        for (int row : new int[] {-1, 1, Integer.MIN_VALUE, Integer.MAX_VALUE}) {
            CHECK.refused("7 row " + row, INDEX, () -> x.distance(row));
        }
        WarpSearch far = asking(16);
        for (int i = 0; i < 16; i++) {
            far.ask(i, 1000);
        }
        far.keep(0);
        for (int i = 0; i < 16; i++) {
            far.ask(i, -1000);
        }
        same("7 the farthest", far.distance(0), 64_000_000);
    }

    /** Promise 8. */
    private static void bound() {
        WarpSearch x = asking(4, 5, 20, -3, 1);
        x.keep(0);
        set(x, 1, 2, 3, 4);
        same("8 ends", x.bound(0, 0), 16 + 9);
        same("8 hull, band 0", x.bound(0, 1), 16 + 324 + 36 + 9);
        same("8 other hull, band 0", x.bound(0, 2), 16 + 324 + 36 + 9);
        x.band(1);
        same("8 hull", x.bound(0, 1), 9 + 289 + 25 + 4);
        same("8 other hull", x.bound(0, 2), 16 + 0 + 0 + 9);
        x.band(15);
        same("8 hull of all", x.bound(0, 1), 1 + 256 + 16);
        same("8 other hull of all", x.bound(0, 2), 0);
        for (int row : new int[] {-1, 1, Integer.MIN_VALUE, Integer.MAX_VALUE}) {
            CHECK.refused("8 row " + row, INDEX, () -> x.bound(row, 0));
            CHECK.refused("8 row first " + row, INDEX, () -> x.bound(row, 3));
        }
        for (int which : new int[] {-1, 3, Integer.MIN_VALUE, Integer.MAX_VALUE}) {
            CHECK.refused("8 which " + which, ARGUMENT, () -> x.bound(0, which));
        }
    }

    /** Promises 9 and 10. */
    private static void path() {
        int[] zeros = {0, 0, 0};
        pathIs("all three equal", 2, zeros, zeros, 0, 17, 34);
        pathIs("both and up equal", 2, zeros, new int[] {1, 1, 0}, 0, 17, 34);
        pathIs("both and back equal", 2, zeros, new int[] {0, 0, 1}, 0, 17, 34);
        pathIs("up and back equal", 2, new int[] {0, 1, 0}, new int[] {1, 0, 1}, 0, 1, 18, 34);
        pathIs("up least", 2, new int[] {1, 0, 0}, new int[] {0, 1, 0}, 0, 1, 18, 34);
        pathIs("back least", 2, new int[] {0, 1, 0}, new int[] {1, 0, 0}, 0, 16, 33, 34);
        pathIs("band 0", 0, new int[] {0, 1, 0}, new int[] {1, 0, 0}, 0, 17, 34);
        pathIs("a row's number twice", 1, new int[] {0, 5, 5, 5}, new int[] {0, 0, 5, 5}, 0, 1, 18, 34, 51);
        pathIs("a question's number twice", 1, new int[] {0, 0, 0, 5}, new int[] {0, 0, 5, 5}, 0, 16, 33, 50, 51);

        WarpSearch y = asking(3);
        y.keep(0);
        for (int row : new int[] {-1, 1, Integer.MIN_VALUE, Integer.MAX_VALUE}) {
            CHECK.refused("9 row " + row, INDEX, () -> y.steps(row));
            CHECK.refused("10 row " + row, INDEX, () -> y.pair(row, 0));
        }
        for (int k : new int[] {-1, 3, Integer.MIN_VALUE, Integer.MAX_VALUE}) {
            CHECK.refused("10 pair " + k, INDEX, () -> y.pair(0, k));
        }
        longestPath();
    }

    /** As long as a best path can be: a turn at a corner of the band would cost a pair for nothing. */
    private static void longestPath() {
        WarpSearch x = asking(16);
        for (int i = 1; i < 16; i++) {
            x.ask(i, 1000);
        }
        x.keep(0);
        for (int i = 1; i < 15; i++) {
            x.ask(i, 0);
        }
        x.band(15);
        same("9 longest path", x.steps(0), 30);
        same("10 beside the row's first number", x.pair(0, 14), 16 * 14);
        same("10 on to the next", x.pair(0, 15), 16 * 15 + 1);
        same("10 end", x.pair(0, 29), 255);
        CHECK.refused("10 behind the end", INDEX, () -> x.pair(0, 30));
    }

    /** Promise 11: the list. */
    private static void search() {
        WarpSearch x = asking(2);
        for (int row = 0; row < 12; row++) {
            set(x, 0, (row * 5) % 12);
            x.keep(0);
        }
        set(x, 0, 0);
        same("11 three", x.search(3), 3);
        listIs("11 three", x, new int[] {0, 5, 10}, new int[] {0, 1, 4});
        same("11 all", x.search(12), 12);
        listIs("11 all", x, new int[] {0, 5, 10, 3, 8, 1, 6, 11, 4, 9, 2, 7},
                new int[] {0, 1, 4, 9, 16, 25, 36, 49, 64, 81, 100, 121});
        for (int k : new int[] {0, -1, 13, Integer.MIN_VALUE, Integer.MAX_VALUE}) {
            CHECK.refused("11 k " + k, ARGUMENT, () -> x.search(k));
            CHECK.refused("11 k before rows " + k, ARGUMENT, () -> new WarpSearch().search(k));
        }
        CHECK.refused("11 no row", STATE, () -> new WarpSearch().search(1));

        WarpSearch ties = asking(2);
        for (int v : new int[] {2, -1, -2, 1, 2, 1}) {
            set(ties, 0, v);
            ties.keep(0);
        }
        set(ties, 0, 0);
        same("11 fewer rows than k", ties.search(12), 6);
        listIs("11 ties", ties, new int[] {1, 3, 5, 0, 2, 4}, new int[] {1, 1, 1, 4, 4, 4});
        same("11 ties, four", ties.search(4), 4);
        listIs("11 ties, four", ties, new int[] {1, 3, 5, 0}, new int[] {1, 1, 1, 4});
        same("11 ties, two", ties.search(2), 2);
        listIs("11 ties, two", ties, new int[] {1, 3}, new int[] {1, 1});
    }

    /** Promises 11 and 14: what becomes of a second row once the first one has set the limit. */
    private static void searchPassesOverAndGivesUp() {
        second("by the ends, equal to the limit", new int[] {0, 0, 0, 0},
                new int[] {1, 0, 0, 0}, new int[] {1, 0, 0, 0}, 1, 0, 0, 1, 0);
        second("by the hull", new int[] {0, 0, 0, 0},
                new int[] {0, 1, 0, 0}, new int[] {0, 1, 0, 0}, 0, 1, 0, 1, 0);
        second("by the other hull", new int[] {1, 0, 0, 0},
                new int[] {1, 1, 1, 1}, new int[] {1, 1, 1, 1}, 0, 0, 1, 1, 0);
        second("given up in line 1", new int[] {2, 0, 0, 0},
                new int[] {1, 1, 0, 0}, new int[] {1, 1, 0, 0}, 0, 0, 0, 2, 1);
        second("given up in line 2", new int[] {1, 0, 0, 0},
                new int[] {0, 2, 0, 0}, new int[] {0, 2, 0, 0}, 0, 0, 0, 2, 1);
        second("given up in the last line", new int[] {1, 0, 0, 0},
                new int[] {0, 2, 0, 0}, new int[] {0, 0, 1, 0}, 0, 0, 0, 2, 1);
        second("above the limit, nothing comes of it", new int[] {1, 0, 0, 0},
                new int[] {1, 1, 1, 2}, new int[] {0, 1, 1, 2}, 0, 0, 0, 2, 0);
        second("at the limit, nothing comes of it", new int[] {1, 0, 0, 0},
                new int[] {1, 1, 1, 1}, new int[] {0, 2, 0, 1}, 0, 0, 0, 2, 0);
    }

    private static void second(String what, int[] question, int[] first, int[] other, int... counts) {
        WarpSearch x = asking(4, first);
        x.band(1);
        x.keep(0);
        set(x, other);
        x.keep(0);
        set(x, question);
        same("11 " + what, x.search(1), 1);
        same("11 " + what + ", first stays", x.found(0, false), 0);
        for (int i = 0; i < counts.length; i++) {
            same("14 " + what + ", count " + i, x.count(i), counts[i]);
        }
        x.search(2);
        same("14 " + what + ", no limit, all compared", x.count(3), 2);
        same("14 " + what + ", no limit, none given up", x.count(4), 0);
    }

    /** Promise 12. */
    private static void found() {
        WarpSearch x = asking(2, 3, 4);
        x.keep(0);
        set(x, 0, 0);
        x.keep(0);
        x.search(2);
        same("12 place", x.found(1, false), 0);
        same("12 distance", x.found(1, true), 25);
        set(x, 3, 4);
        x.band(1);
        same("12 of that search, not of this question", x.found(0, false), 1);
        for (int i : new int[] {-1, 2, 12, Integer.MIN_VALUE, Integer.MAX_VALUE}) {
            CHECK.refused("12 found " + i, INDEX, () -> x.found(i, false));
            CHECK.refused("12 found distance " + i, INDEX, () -> x.found(i, true));
        }
        x.search(1);
        CHECK.refused("12 a shorter list", INDEX, () -> x.found(1, false));
        x.begin(2);
        CHECK.refused("12 after begin", INDEX, () -> x.found(0, false));
    }

    /** Promise 13. */
    private static void guess() {
        WarpSearch x = asking(2);
        int[][] rows = {{5, 3}, {1, 7}, {2, 3}, {3, 0}, {4, 0}};
        for (int[] row : rows) {
            set(x, 0, row[0]);
            x.keep(row[1]);
        }
        set(x, 0, 0);
        same("13 one", x.guess(1), 7);
        same("13 a tie goes to the nearer one", x.guess(2), 7);
        same("13 a tie of three", x.guess(3), 7);
        same("13 two of four", x.guess(4), 0);
        same("13 a tie of two labels", x.guess(5), 3);
        same("13 found by a search", x.found(4, false), 0);
        same("13 its counts", x.count(3), 5);
        same("13 k above the rows", x.guess(12), 3);
        for (int k : new int[] {0, 13, Integer.MIN_VALUE, Integer.MAX_VALUE}) {
            CHECK.refused("13 k " + k, ARGUMENT, () -> x.guess(k));
            CHECK.refused("13 k before rows " + k, ARGUMENT, () -> new WarpSearch().guess(k));
        }
        CHECK.refused("13 no row", STATE, () -> new WarpSearch().guess(1));
    }

    /** Promise 14. */
    private static void count() {
        WarpSearch x = asking(2);
        x.keep(0);
        x.keep(0);
        x.search(1);
        same("14 compared", x.count(3), 1);
        same("14 passed over", x.count(0), 1);
        x.search(2);
        same("14 of the latest search", x.count(0), 0);
        x.push(1);
        x.push(1);
        x.scan(1);
        same("14 of a stream", x.count(3), 1);
        x.begin(5);
        same("14 begin is no search", x.count(3), 1);
        for (int what : new int[] {-1, 5, Integer.MIN_VALUE, Integer.MAX_VALUE}) {
            CHECK.refused("14 count " + what, ARGUMENT, () -> x.count(what));
        }
    }

    /** Promise 15. */
    private static void push() {
        WarpSearch x = new WarpSearch();
        for (int v : new int[] {-1001, 1001, Integer.MIN_VALUE, Integer.MAX_VALUE}) {
            CHECK.refused("15 push " + v, ARGUMENT, () -> x.push(v));
        }
        for (int many = 1; many <= 64; many++) {
            same("15 how many", x.push(many % 2 == 0 ? 1000 : -1000), many);
        }
        CHECK.refused("15 the 65th", STATE, () -> x.push(0));
        CHECK.refused("15 value first", ARGUMENT, () -> x.push(1001));
        x.shift(1);
        same("15 room again", x.push(0), 64);
    }

    /** Promise 16. */
    private static void scan() {
        WarpSearch x = asking(3, 1, 2, 3);
        for (int k : new int[] {0, 13, Integer.MIN_VALUE, Integer.MAX_VALUE}) {
            CHECK.refused("16 k before windows " + k, ARGUMENT, () -> x.scan(k));
        }
        CHECK.refused("16 empty", STATE, () -> x.scan(1));
        x.push(1);
        x.push(2);
        CHECK.refused("16 too short", STATE, () -> x.scan(1));
        x.push(3);
        same("16 one window", x.scan(12), 1);
        listIs("16 one window", x, new int[] {0}, new int[] {0});
        for (int v : new int[] {0, 1, 2, 3}) {
            x.push(v);
        }
        // 1 2 3, 2 3 0, 3 0 1, 0 1 2, 1 2 3
        same("16 three of five", x.scan(3), 3);
        listIs("16 three of five", x, new int[] {0, 4, 3}, new int[] {0, 0, 3});
        same("16 all", x.scan(12), 5);
        listIs("16 all", x, new int[] {0, 4, 3, 1, 2}, new int[] {0, 0, 3, 11, 12});
        same("16 compared", x.count(3), 5);
        x.scan(1);
        same("16 passed over", x.count(0), 4);
        for (int k : new int[] {0, -1, 13}) {
            CHECK.refused("16 k " + k, ARGUMENT, () -> x.scan(k));
        }
        CHECK.refused("16 the collection is no stream", STATE, () -> x.search(1));
        fullStream();
    }

    private static void fullStream() {
        WarpSearch x = asking(16);
        for (int v = 0; v < 64; v++) {
            x.push(v);
        }
        for (int i = 0; i < 16; i++) {
            x.ask(i, 48 + i);
        }
        same("16 full stream", x.scan(2), 2);
        listIs("16 full stream", x, new int[] {48, 47}, new int[] {0, 16});
        same("16 every window was compared", x.count(3), 49);
    }

    /** Promise 17. */
    private static void shift() {
        WarpSearch x = new WarpSearch();
        x.shift(0);
        for (int v : new int[] {9, 8, 7, 6}) {
            x.push(v);
        }
        for (int many : new int[] {-1, 5, 64, Integer.MIN_VALUE, Integer.MAX_VALUE}) {
            CHECK.refused("17 shift " + many, ARGUMENT, () -> x.shift(many));
        }
        x.shift(0);
        same("17 none lost", x.scan(12), 3);
        x.shift(1);
        same("17 the list stays", x.found(0, true), 85);
        same("17 the list's place stays", x.found(0, false), 2);
        same("17 one lost", x.scan(12), 2);
        listIs("17 one lost", x, new int[] {1, 0}, new int[] {85, 113});
        same("17 behind the rest", x.push(0), 4);
        same("17 its window", x.scan(1), 1);
        listIs("17 its window", x, new int[] {2}, new int[] {36});
        x.shift(4);
        CHECK.refused("17 all lost", STATE, () -> x.scan(1));
        same("17 from the beginning", x.push(1), 1);
    }

    private static void refusedCallsChangeNothing() {
        WarpSearch x = asking(2, 3, 4);
        x.keep(5);
        x.push(1);
        set(x, 0, 0);
        x.search(1);
        CHECK.refused("begin", ARGUMENT, () -> x.begin(1));
        CHECK.refused("ask", ARGUMENT, () -> x.ask(0, 1001));
        CHECK.refused("keep", ARGUMENT, () -> x.keep(8));
        CHECK.refused("recall", INDEX, () -> x.recall(1));
        CHECK.refused("band", ARGUMENT, () -> x.band(16));
        CHECK.refused("search", ARGUMENT, () -> x.search(0));
        CHECK.refused("scan", STATE, () -> x.scan(1));
        CHECK.refused("push", ARGUMENT, () -> x.push(1001));
        CHECK.refused("shift", ARGUMENT, () -> x.shift(2));
        same("list stays", x.found(0, true), 25);
        same("counts stay", x.count(3), 1);
        same("question stays", x.ask(0, 0), 0);
        same("rows stay", x.distance(0), 25);
        same("band stays", x.band(0), 0);
        same("next row", x.keep(0), 1);
        same("next in stream", x.push(0), 2);
    }

    private static WarpSearch asking(int n, int... numbers) {
        return Given.asking(n, numbers);
    }

    private static void set(WarpSearch x, int... numbers) {
        Given.set(x, numbers);
    }

    private static void pathIs(String what, int w, int[] question, int[] row, int... pairs) {
        WarpSearch x = asking(row.length, row);
        x.keep(0);
        set(x, question);
        x.band(w);
        same("9 " + what, x.steps(0), pairs.length);
        for (int k = 0; k < pairs.length; k++) {
            int at = k;
            CHECK.same("10 " + what + ", pair " + k, Check.outcome(() -> x.pair(0, at)), "" + pairs[k]);
        }
    }

    private static void listIs(String what, WarpSearch x, int[] places, int[] distances) {
        for (int i = 0; i < places.length; i++) {
            int at = i;
            CHECK.same(what + ", place " + i, Check.outcome(() -> x.found(at, false)), "" + places[i]);
            CHECK.same(what + ", distance " + i, Check.outcome(() -> x.found(at, true)), "" + distances[i]);
        }
        CHECK.refused(what + ", end of the list", INDEX, () -> x.found(places.length, false));
    }

    private static void same(String what, int got, int due) {
        CHECK.same(what, got, due);
    }
}
