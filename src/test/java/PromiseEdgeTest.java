/** The boundary cases that promises 1 to 17 name, a test for each sentence that names one. */
public final class PromiseEdgeTest {
    private static final Class<IllegalArgumentException> ARGUMENT = Check.ARGUMENT;
    private static final Class<IndexOutOfBoundsException> INDEX = Check.INDEX;
    private static final Class<IllegalStateException> STATE = Check.STATE;

    private static final Check CHECK = new Check();

    /** A call with one argument, on an object that is as the test needs it. */
    interface Try {
        void with(int v);
    }

    public static void main(String[] args) {
        newObject();
        begin();
        ask();
        keep();
        recall();
        band();
        distance();
        bound();
        steps();
        pair();
        search();
        found();
        guess();
        count();
        push();
        scan();
        shift();
        CHECK.finish();
    }

    private static void newObject() {
        CHECK.sentence("1: n is at first 2", () -> {
            rangeIs(0, 1, INDEX, i -> new WarpSearch().ask(i, 0));
            WarpSearch x = new WarpSearch();
            x.keep(0);
            same("pairs in band 0", x.steps(0), 2);
        });
        CHECK.sentence("1: the question is at first of zeros", () -> {
            WarpSearch x = new WarpSearch();
            same("number 0", x.ask(0, 1), 0);
            same("number 1", x.ask(1, 1), 0);
        });
        CHECK.sentence("1: the band is at first 0", () -> same("band", new WarpSearch().band(15), 0));
        CHECK.sentence("1: there is at first no row", () -> {
            refusesAll(INDEX, row -> new WarpSearch().recall(row), 0, 1, 11, 12);
            CHECK.refused("search", STATE, () -> new WarpSearch().search(1));
            same("the first row", new WarpSearch().keep(0), 0);
        });
        CHECK.sentence("1: the stream is at first empty", () -> {
            CHECK.refused("shift", ARGUMENT, () -> new WarpSearch().shift(1));
            CHECK.refused("scan", STATE, () -> new WarpSearch().scan(1));
            same("the first number", new WarpSearch().push(0), 1);
        });
        CHECK.sentence("1: there is at first no list", () -> {
            refusesAll(INDEX, i -> new WarpSearch().found(i, false), 0, 1, 11);
            refusesAll(INDEX, i -> new WarpSearch().found(i, true), 0, 1, 11);
        });
        CHECK.sentence("1: the counts are all 0 before the first search", () -> {
            for (int what = 0; what <= 4; what++) {
                same("count " + what, new WarpSearch().count(what), 0);
            }
        });
    }

    private static void begin() {
        CHECK.sentence("2: n is not 2 .. 16", () -> {
            rangeIs(2, 16, ARGUMENT, n -> new WarpSearch().begin(n));
            rangeIs(2, 16, ARGUMENT, n -> Given.rows(12).begin(n));
        });
        CHECK.sentence("2: rows have n numbers from now on", () -> {
            for (int n = 2; n <= 16; n++) {
                WarpSearch x = Given.asking(16);
                x.begin(n);
                rangeIs(0, n - 1, INDEX, i -> x.ask(i, 0));
                x.keep(0);
                same("pairs of " + n, x.steps(0), n);
                same("the last of " + n, x.pair(0, n - 1), 17 * (n - 1));
            }
        });
        CHECK.sentence("2: there is no row in the collection", () -> {
            WarpSearch x = Given.rows(12);
            x.begin(2);
            refusesAll(INDEX, x::recall, 0, 1, 11, 12);
            CHECK.refused("search", STATE, () -> x.search(1));
            CHECK.refused("guess", STATE, () -> x.guess(1));
            for (int row = 0; row < 12; row++) {
                same("room for a row", x.keep(0), row);
            }
            CHECK.refused("and no more", STATE, () -> x.keep(0));
        });
        CHECK.sentence("2: the question is of zeros", () -> {
            WarpSearch x = Given.asking(16);
            Given.setAll(x, 16, 1000);
            x.begin(16);
            zeros(x, 16);
            Given.setAll(x, 16, -1000);
            x.begin(2);
            zeros(x, 2);
            x.begin(16);
            zeros(x, 16);
        });
        CHECK.sentence("2: the band stays", () -> {
            WarpSearch x = new WarpSearch();
            x.band(15);
            x.begin(2);
            same("the widest", x.band(0), 15);
            x.begin(16);
            same("the narrowest", x.band(0), 0);
        });
        CHECK.sentence("2: the stream stays", () -> {
            WarpSearch x = Given.stream(16, 64);
            x.begin(2);
            CHECK.refused("full", STATE, () -> x.push(0));
            Given.set(x, 63, 64);
            same("scan", x.scan(1), 1);
            hitIs(x, 0, 62, 0);
            Given.set(x, 1, 2);
            x.scan(1);
            hitIs(x, 0, 0, 0);
        });
    }

    private static void ask() {
        CHECK.sentence("3: there is no number i", () -> {
            for (int n : new int[] {2, 3, 15, 16}) {
                rangeIs(0, n - 1, INDEX, i -> Given.asking(n).ask(i, 0));
            }
        });
        CHECK.sentence("3: v is not -1000 .. 1000", () -> {
            rangeIs(-1000, 1000, ARGUMENT, v -> Given.asking(16).ask(0, v));
            rangeIs(-1000, 1000, ARGUMENT, v -> Given.asking(16).ask(15, v));
        });
        CHECK.sentence("3: number i becomes v, what it was", () -> {
            WarpSearch x = Given.asking(16);
            same("first", x.ask(15, -1000), 0);
            same("the least", x.ask(15, 1000), -1000);
            same("the greatest", x.ask(15, 1000), 1000);
            same("the same again", x.ask(15, 0), 1000);
            zeros(x, 16);
        });
    }

    private static void keep() {
        CHECK.sentence("4: label is not 0 .. 7", () -> {
            rangeIs(0, 7, ARGUMENT, label -> new WarpSearch().keep(label));
            rangeIs(0, 7, ARGUMENT, label -> Given.rows(11).keep(label));
        });
        CHECK.sentence("4: there are 12", () -> {
            same("the first", Given.rows(0).keep(7), 0);
            same("the last", Given.rows(11).keep(7), 11);
            for (int label = 0; label <= 7; label++) {
                int one = label;
                CHECK.refused("behind it, label " + label, STATE, () -> Given.rows(12).keep(one));
            }
        });
        CHECK.sentence("4: the question comes into the full collection as it is", () -> {
            WarpSearch x = Given.asking(16);
            for (int row = 0; row < 12; row++) {
                for (int i = 0; i < 16; i++) {
                    x.ask(i, 16 * row + i);
                }
                x.keep(row % 8);
            }
            for (int row = 0; row < 12; row++) {
                x.recall(row);
                for (int i = 0; i < 16; i++) {
                    same("row " + row + ", number " + i, x.ask(i, 0), 16 * row + i);
                }
            }
        });
        CHECK.sentence("4: the least and the greatest label are kept", () -> {
            WarpSearch x = new WarpSearch();
            x.keep(7);
            Given.set(x, 9, 9);
            x.keep(0);
            same("0", x.guess(1), 0);
            Given.set(x, 0, 0);
            same("7", x.guess(1), 7);
        });
    }

    private static void recall() {
        CHECK.sentence("5: there is no such row", () -> {
            rowsAre(0, (x, row) -> x.recall(row));
            rowsAre(1, (x, row) -> x.recall(row));
            rowsAre(12, (x, row) -> x.recall(row));
        });
        CHECK.sentence("5: the row stays", () -> {
            WarpSearch x = Given.rows(12);
            x.recall(11);
            same("its number", x.ask(0, 1000), 11);
            same("the question alone has changed", x.distance(11), 989 * 989);
            x.recall(11);
            same("once more", x.ask(0, 0), 11);
            CHECK.refused("there are 12 still", STATE, () -> x.keep(0));
        });
        CHECK.sentence("5: the whole row becomes the question", () -> {
            WarpSearch x = Given.asking(16);
            Given.setAll(x, 16, -1000);
            x.keep(0);
            Given.setAll(x, 16, 1000);
            x.recall(0);
            for (int i = 0; i < 16; i++) {
                same("number " + i, x.ask(i, 0), -1000);
            }
        });
    }

    private static void band() {
        CHECK.sentence("6: w is not 0 .. 15", () -> {
            rangeIs(0, 15, ARGUMENT, w -> new WarpSearch().band(w));
            rangeIs(0, 15, ARGUMENT, w -> Given.asking(16).band(w));
        });
        CHECK.sentence("6: what it was", () -> {
            WarpSearch x = new WarpSearch();
            same("at first", x.band(15), 0);
            same("the greatest", x.band(15), 15);
            same("the greatest again", x.band(0), 15);
            same("the least", x.band(1), 0);
        });
    }

    private static void distance() {
        CHECK.sentence("7: there is no such row", () -> {
            rowsAre(0, (x, row) -> x.distance(row));
            rowsAre(1, (x, row) -> x.distance(row));
            rowsAre(12, (x, row) -> x.distance(row));
        });
        CHECK.sentence("7: the least and the greatest distance", () -> {
            for (int w : new int[] {0, 1, 14, 15}) {
                WarpSearch x = opposed(16, w);
                same("greatest of 16, band " + w, x.distance(0), 64_000_000);
                x.recall(0);
                same("least of 16, band " + w, x.distance(0), 0);
                same("greatest of 2, band " + w, opposed(2, w).distance(0), 8_000_000);
            }
        });
    }

    private static void bound() {
        CHECK.sentence("8: there is no such row", () -> {
            for (int which = 0; which <= 2; which++) {
                int one = which;
                rowsAre(0, (x, row) -> x.bound(row, one));
                rowsAre(1, (x, row) -> x.bound(row, one));
                rowsAre(12, (x, row) -> x.bound(row, one));
            }
        });
        CHECK.sentence("8: which is not 0 .. 2", () -> {
            rangeIs(0, 2, ARGUMENT, which -> Given.rows(1).bound(0, which));
            rangeIs(0, 2, ARGUMENT, which -> Given.rows(12).bound(11, which));
        });
        CHECK.sentence("8: the least and the greatest bounds", () -> {
            for (int w : new int[] {0, 1, 14, 15}) {
                WarpSearch x = opposed(16, w);
                same("ends", x.bound(0, 0), 8_000_000);
                same("hull", x.bound(0, 1), 64_000_000);
                same("other hull", x.bound(0, 2), 64_000_000);
                x.recall(0);
                for (int which = 0; which <= 2; which++) {
                    same("least of " + which, x.bound(0, which), 0);
                }
            }
        });
    }

    private static void steps() {
        CHECK.sentence("9: there is no such row", () -> {
            rowsAre(0, (x, row) -> x.steps(row));
            rowsAre(1, (x, row) -> x.steps(row));
            rowsAre(12, (x, row) -> x.steps(row));
        });
        CHECK.sentence("9: the shortest and the longest best path", () -> {
            same("of 2", opposed(2, 15).steps(0), 2);
            same("of 16", opposed(16, 15).steps(0), 16);
            same("of 16, longest", longest().steps(0), 30);
        });
    }

    private static void pair() {
        CHECK.sentence("10: there is no such row", () -> {
            rowsAre(0, (x, row) -> x.pair(row, 0));
            rowsAre(1, (x, row) -> x.pair(row, 1));
            rowsAre(12, (x, row) -> x.pair(row, 1));
        });
        CHECK.sentence("10: there is no such pair", () -> {
            rangeIs(0, 1, INDEX, k -> opposed(2, 15).pair(0, k));
            rangeIs(0, 15, INDEX, k -> opposed(16, 15).pair(0, k));
            rangeIs(0, 29, INDEX, k -> longest().pair(0, k));
        });
        CHECK.sentence("10: from (0, 0) to (n - 1, n - 1)", () -> {
            same("first of 2", opposed(2, 15).pair(0, 0), 0);
            same("last of 2", opposed(2, 15).pair(0, 1), 17);
            same("first of 16", longest().pair(0, 0), 0);
            same("last of 16", longest().pair(0, 29), 255);
        });
    }

    private static void search() {
        CHECK.sentence("11: k is not 1 .. 12", () -> {
            rangeIs(1, 12, ARGUMENT, k -> Given.rows(1).search(k));
            rangeIs(1, 12, ARGUMENT, k -> Given.rows(12).search(k));
        });
        CHECK.sentence("11: there is no row", () -> {
            CHECK.refused("new, 1", STATE, () -> new WarpSearch().search(1));
            CHECK.refused("new, 12", STATE, () -> new WarpSearch().search(12));
            CHECK.refused("a stream alone", STATE, () -> Given.stream(2, 64).search(1));
            same("one", Given.rows(1).search(1), 1);
        });
        CHECK.sentence("11: how many there are in the list", () -> {
            for (int many = 1; many <= 12; many++) {
                for (int k = 1; k <= 12; k++) {
                    same(k + " of " + many, Given.rows(many).search(k), Math.min(k, many));
                }
            }
        });
        CHECK.sentence("11: in the order of their numbers", () -> {
            WarpSearch x = new WarpSearch();
            for (int row = 0; row < 12; row++) {
                x.keep(0);
            }
            x.search(12);
            for (int i = 0; i < 12; i++) {
                hitIs(x, i, i, 0);
            }
        });
    }

    private static void found() {
        CHECK.sentence("12: there is no row i in the list", () -> {
            for (int many : new int[] {1, 11, 12}) {
                for (int k : new int[] {1, many, 12}) {
                    WarpSearch x = Given.rows(many);
                    int last = x.search(k) - 1;
                    rangeIs(0, last, INDEX, i -> x.found(i, false));
                    rangeIs(0, last, INDEX, i -> x.found(i, true));
                }
            }
        });
        CHECK.sentence("12: there is none before the first search", () -> {
            CHECK.refused("place", INDEX, () -> Given.rows(12).found(0, false));
            CHECK.refused("distance", INDEX, () -> Given.stream(2, 64).found(0, true));
        });
        CHECK.sentence("12: there is none after begin()", () -> {
            WarpSearch x = Given.rows(12);
            x.search(12);
            x.begin(2);
            refusesAll(INDEX, i -> x.found(i, false), 0, 1, 11, 12);
            x.keep(0);
            refusesAll(INDEX, i -> x.found(i, true), 0, 1, 11, 12);
            x.search(12);
            hitIs(x, 0, 0, 0);
            refusesAll(INDEX, i -> x.found(i, false), 1, 11);
            WarpSearch y = Given.stream(2, 3);
            y.scan(2);
            y.begin(2);
            refusesAll(INDEX, i -> y.found(i, false), 0, 1);
        });
        CHECK.sentence("12: the list is that of the latest search", () -> {
            WarpSearch x = Given.rows(12);
            x.search(12);
            x.search(1);
            CHECK.refused("a shorter list", INDEX, () -> x.found(1, false));
            x.guess(2);
            hitIs(x, 1, 1, 1);
            CHECK.refused("of guess()", INDEX, () -> x.found(2, false));
            x.push(5);
            x.push(0);
            x.scan(12);
            hitIs(x, 0, 0, 25);
            CHECK.refused("of a stream", INDEX, () -> x.found(1, false));
        });
        CHECK.sentence("12: the list stays until the next search or begin()", () -> {
            WarpSearch x = Given.rows(11);
            x.push(1);
            x.search(11);
            x.keep(0);
            x.recall(5);
            x.ask(1, 7);
            x.band(3);
            x.push(2);
            x.shift(2);
            x.distance(3);
            for (int i = 0; i < 11; i++) {
                hitIs(x, i, i, i * i);
            }
            CHECK.refused("the row kept since", INDEX, () -> x.found(11, false));
        });
    }

    private static void guess() {
        CHECK.sentence("13: k is not 1 .. 12", () -> {
            rangeIs(1, 12, ARGUMENT, k -> Given.rows(1).guess(k));
            rangeIs(1, 12, ARGUMENT, k -> Given.rows(12).guess(k));
        });
        CHECK.sentence("13: there is no row", () -> {
            CHECK.refused("new, 1", STATE, () -> new WarpSearch().guess(1));
            CHECK.refused("new, 12", STATE, () -> new WarpSearch().guess(12));
            CHECK.refused("a stream alone", STATE, () -> Given.stream(2, 64).guess(1));
            same("one", Given.rows(1).guess(12), 0);
        });
        CHECK.sentence("13: of several with as many, that of which the first one comes first", () -> {
            same("two of one each", labelled(7, 0).guess(2), 7);
            same("two of two each", labelled(5, 2, 2, 5).guess(4), 5);
            same("three of two each", labelled(3, 1, 0, 1, 0, 3).guess(6), 3);
            same("two of six each", labelled(6, 4, 4, 4, 4, 4, 4, 6, 6, 6, 6, 6).guess(12), 6);
            same("six against five and one", labelled(6, 4, 4, 4, 4, 4, 4, 6, 6, 6, 6, 1).guess(12), 4);
        });
        CHECK.sentence("13: only the k nearest rows count", () -> {
            WarpSearch x = labelled(1, 2, 2, 2);
            same("one", x.guess(1), 1);
            same("two", x.guess(2), 1);
            same("three", x.guess(3), 2);
            same("more than there are", x.guess(12), 2);
        });
    }

    private static void count() {
        CHECK.sentence("14: what is not 0 .. 4", () -> {
            rangeIs(0, 4, ARGUMENT, what -> new WarpSearch().count(what));
            WarpSearch x = Given.rows(12);
            x.search(1);
            rangeIs(0, 4, ARGUMENT, x::count);
        });
        CHECK.sentence("14: of the latest search", () -> {
            WarpSearch x = Given.rows(12);
            x.search(1);
            countsAre(x, 11, 0, 0, 1, 0);
            x.guess(12);
            countsAre(x, 0, 0, 0, 12, 0);
            x.push(0);
            x.push(0);
            x.push(0);
            x.scan(1);
            countsAre(x, 1, 0, 0, 1, 0);
            x.begin(3);
            countsAre(x, 1, 0, 0, 1, 0);
        });
    }

    private static void push() {
        CHECK.sentence("15: v is not -1000 .. 1000", () -> {
            rangeIs(-1000, 1000, ARGUMENT, v -> new WarpSearch().push(v));
            rangeIs(-1000, 1000, ARGUMENT, v -> Given.stream(2, 63).push(v));
        });
        CHECK.sentence("15: there are 64", () -> {
            same("the last", Given.stream(2, 63).push(0), 64);
            CHECK.refused("behind it, 0", STATE, () -> Given.stream(2, 64).push(0));
            CHECK.refused("behind it, 1000", STATE, () -> Given.stream(2, 64).push(1000));
            CHECK.refused("behind it, -1000", STATE, () -> Given.stream(16, 64).push(-1000));
            WarpSearch x = Given.stream(2, 64);
            x.shift(1);
            same("room again", x.push(0), 64);
            CHECK.refused("for one", STATE, () -> x.push(0));
        });
        CHECK.sentence("15: the least and the greatest number", () -> {
            WarpSearch x = new WarpSearch();
            x.push(-1000);
            x.push(1000);
            Given.set(x, -1000, 1000);
            x.scan(1);
            hitIs(x, 0, 0, 0);
            Given.set(x, 1000, -1000);
            x.scan(1);
            hitIs(x, 0, 0, 8_000_000);
        });
    }

    private static void scan() {
        CHECK.sentence("16: k is not 1 .. 12", () -> {
            rangeIs(1, 12, ARGUMENT, k -> Given.stream(2, 2).scan(k));
            rangeIs(1, 12, ARGUMENT, k -> Given.stream(16, 64).scan(k));
        });
        CHECK.sentence("16: there is no window", () -> {
            for (int n = 2; n <= 16; n++) {
                int size = n;
                CHECK.refused("empty, n " + n, STATE, () -> Given.stream(size, 0).scan(1));
                CHECK.refused("one too few, n " + n, STATE, () -> Given.stream(size, size - 1).scan(12));
                same("one window, n " + n, Given.stream(n, n).scan(12), 1);
                same("two windows, n " + n, Given.stream(n, n + 1).scan(12), 2);
            }
            CHECK.refused("rows alone", STATE, () -> Given.rows(12).scan(1));
        });
        CHECK.sentence("16: there is no window since begin() or shift()", () -> {
            WarpSearch x = Given.stream(2, 15);
            x.begin(16);
            CHECK.refused("longer rows", STATE, () -> x.scan(1));
            x.begin(15);
            same("rows just so long", x.scan(1), 1);
            x.shift(1);
            CHECK.refused("a shorter stream", STATE, () -> x.scan(1));
            x.push(0);
            same("a number more", x.scan(1), 1);
        });
        CHECK.sentence("16: how many there are in the list", () -> {
            for (int k = 1; k <= 12; k++) {
                same(k + " of 63", Given.stream(2, 64).scan(k), k);
                same(k + " of 49", Given.stream(16, 64).scan(k), k);
                same(k + " of 11", Given.stream(2, 12).scan(k), Math.min(k, 11));
            }
        });
        CHECK.sentence("16: the first and the last window of a full stream", () -> {
            for (int n : new int[] {2, 16}) {
                WarpSearch x = Given.stream(n, 64);
                for (int i = 0; i < n; i++) {
                    x.ask(i, 65 - n + i);
                }
                x.scan(2);
                hitIs(x, 0, 64 - n, 0);
                hitIs(x, 1, 63 - n, n);
                for (int i = 0; i < n; i++) {
                    x.ask(i, 1 + i);
                }
                x.scan(2);
                hitIs(x, 0, 0, 0);
                hitIs(x, 1, 1, n);
            }
        });
        CHECK.sentence("16: from the first on", () -> {
            WarpSearch x = new WarpSearch();
            for (int i = 0; i < 64; i++) {
                x.push(7);
            }
            x.scan(12);
            for (int i = 0; i < 12; i++) {
                hitIs(x, i, i, 98);
            }
            countsAre(x, 51, 0, 0, 12, 0);
        });
    }

    private static void shift() {
        CHECK.sentence("17: many is below 0, or there are not so many", () -> {
            for (int many : new int[] {0, 1, 2, 63, 64}) {
                rangeIs(0, many, ARGUMENT, v -> Given.stream(2, many).shift(v));
            }
        });
        CHECK.sentence("17: none are lost", () -> {
            WarpSearch x = Given.stream(2, 64);
            x.shift(0);
            CHECK.refused("full still", STATE, () -> x.push(0));
            Given.set(x, 1, 2);
            x.scan(1);
            hitIs(x, 0, 0, 0);
        });
        CHECK.sentence("17: all are lost", () -> {
            WarpSearch x = Given.stream(2, 64);
            x.shift(64);
            x.shift(0);
            CHECK.refused("nothing is left", ARGUMENT, () -> x.shift(1));
            CHECK.refused("no window", STATE, () -> x.scan(1));
            for (int many = 1; many <= 64; many++) {
                same("room for", x.push(9), many);
            }
            CHECK.refused("and no more", STATE, () -> x.push(9));
        });
        CHECK.sentence("17: the first numbers are lost, so many", () -> {
            for (int many : new int[] {1, 2, 31, 62}) {
                WarpSearch x = Given.stream(2, 64);
                x.shift(many);
                same("then there are", x.push(0), 65 - many);
                Given.set(x, many + 1, many + 2);
                x.scan(1);
                hitIs(x, 0, 0, 0);
                Given.set(x, 64, 0);
                x.scan(1);
                hitIs(x, 0, 63 - many, 0);
            }
        });
    }

    /** The last values that are allowed are taken, the first that are not, and int's ends, are refused. */
    private static void rangeIs(int low, int high, Class<? extends RuntimeException> due, Try call) {
        int[] inside = low > high ? new int[0] : new int[] {low, high};
        for (int v : inside) {
            CHECK.same("with " + v, Check.outcome(() -> call.with(v)), "done");
        }
        // The others would be taken by code that narrows, negates or multiplies before it looks.
        int[] outside = {low - 1, high + 1, Integer.MIN_VALUE, Integer.MIN_VALUE + 1, Integer.MAX_VALUE,
            Integer.MAX_VALUE - 1, low + 65536, low - 65536, 1 << 28, -(1 << 28), 1 << 30};
        refusesAll(due, call, outside);
    }

    private static void refusesAll(Class<? extends RuntimeException> due, Try call, int... outside) {
        for (int v : outside) {
            CHECK.refused("with " + v, due, () -> call.with(v));
        }
    }

    /** A call that takes a row, on an object with so many. */
    interface OfRow {
        void on(WarpSearch x, int row);
    }

    private static void rowsAre(int many, OfRow call) {
        rangeIs(0, many - 1, INDEX, row -> call.on(Given.rows(many), row));
        WarpSearch x = Given.rows(12);
        x.begin(2);
        CHECK.refused("after begin()", INDEX, () -> call.on(x, 0));
    }

    /** Row 0 has 1000 everywhere, the question -1000. */
    private static WarpSearch opposed(int n, int w) {
        WarpSearch x = Given.asking(n);
        Given.setAll(x, n, 1000);
        x.keep(0);
        Given.setAll(x, n, -1000);
        x.band(w);
        return x;
    }

    /** Its best path has 30 pairs; a turn at the band's corner would cost a pair for nothing. */
    private static WarpSearch longest() {
        WarpSearch x = Given.asking(16);
        Given.setAll(x, 16, 1000);
        x.ask(0, 0);
        x.keep(0);
        Given.setAll(x, 15, 0);
        x.band(15);
        return x;
    }

    /** Rows by rising distance from the question, with these labels. */
    private static WarpSearch labelled(int... labels) {
        WarpSearch x = new WarpSearch();
        for (int row = 0; row < labels.length; row++) {
            x.ask(0, row);
            x.keep(labels[row]);
        }
        x.ask(0, 0);
        return x;
    }

    private static void zeros(WarpSearch x, int n) {
        for (int i = 0; i < n; i++) {
            same("number " + i, x.ask(i, 0), 0);
        }
        CHECK.refused("number " + n, INDEX, () -> x.ask(n, 0));
    }

    private static void hitIs(WarpSearch x, int i, int place, int distance) {
        CHECK.same("place of " + i, Check.outcome(() -> x.found(i, false)), "" + place);
        CHECK.same("distance of " + i, Check.outcome(() -> x.found(i, true)), "" + distance);
    }

    private static void countsAre(WarpSearch x, int... due) {
        for (int what = 0; what < due.length; what++) {
            same("count " + what, x.count(what), due[what]);
        }
    }

    private static void same(String what, int got, int due) {
        CHECK.same(what, got, due);
    }
}
