/** The boundary cases that "What it is" and "Terms" name, a test for each sentence that names one. */
public final class TermEdgeTest {
    private static final Check CHECK = new Check();
    private static final int HIGH = 1000;

    public static void main(String[] args) {
        useOfAnObject();
        windows();
        paths();
        bestPath();
        bounds();
        list();
        limit();
        passedOver();
        givenUp();
        CHECK.finish();
    }

    private static void useOfAnObject() {
        CHECK.sentence("an object is used for at most 512 calls", () -> {
            WarpSearch x = new WarpSearch();
            for (int call = 1; call <= 64; call++) {
                x.push(call);
            }
            for (int call = 65; call <= 76; call++) {
                x.keep(call % 8);
            }
            for (int call = 77; call <= 509; call++) {
                x.scan(12);
            }
            x.band(15);
            same("call 511", x.search(12), 12);
            same("call 512", x.found(11, false), 11);
        });
    }

    private static void windows() {
        CHECK.sentence("window s is the row of the n numbers from place s on, if there are so many", () -> {
            for (int n = 2; n <= 16; n++) {
                for (int many : new int[] {n, n + 1, 63, 64}) {
                    WarpSearch x = Given.stream(n, many);
                    for (int i = 0; i < n; i++) {
                        x.ask(i, many - n + 1 + i);
                    }
                    x.scan(1);
                    same("the last of " + many, x.found(0, false), many - n);
                    same("its numbers", x.found(0, true), 0);
                    same("compared or passed over", weighed(x), many - n + 1);
                }
            }
        });
        CHECK.sentence("windows lie over one another, one number apart", () -> {
            WarpSearch x = Given.stream(3, 5);
            Given.set(x, 1, 2, 3);
            x.scan(12);
            listIs(x, new int[] {0, 1, 2}, new int[] {0, 3, 12});
        });
    }

    private static void paths() {
        CHECK.sentence("i - j lies between -w and w in all pairs", () -> {
            for (int apart = 0; apart <= 13; apart++) {
                spikesMeetWithin("the row's is later", 1, 1 + apart, apart);
                spikesMeetWithin("the question's is later", 1 + apart, 1, apart);
                spikesMeetWithin("at the end", 14 - apart, 14, apart);
            }
        });
        CHECK.sentence("a band of n - 1 and more leaves all pairs", () -> {
            for (int n = 2; n <= 16; n++) {
                WarpSearch x = Given.asking(n);
                x.ask(0, 5);
                x.keep(0);
                x.ask(0, 0);
                x.ask(n - 1, 7);
                x.band(n - 1);
                int due = x.distance(0);
                for (int w = n; w <= 15; w++) {
                    x.band(w);
                    same("n " + n + ", band " + w, x.distance(0), due);
                }
            }
        });
        CHECK.sentence("a path goes from (0, 0) to (n - 1, n - 1)", () -> {
            WarpSearch x = Given.asking(3, 3, 0, 0);
            x.keep(0);
            Given.set(x, 0, 0, 4);
            x.band(15);
            same("both ends are paid for", x.distance(0), 9 + 16);
        });
        CHECK.sentence("in a band of 0 each number meets the one at its own place", () -> {
            WarpSearch x = Given.asking(16);
            for (int i = 0; i < 16; i++) {
                x.ask(i, i);
            }
            x.keep(0);
            Given.setAll(x, 16, 0);
            same("distance", x.distance(0), 1240);
            same("pairs", x.steps(0), 16);
            for (int k = 0; k < 16; k++) {
                same("pair " + k, x.pair(0, k), 17 * k);
            }
        });
    }

    /** One spike in each row: they cost nothing just when a pair of both lies in the band. */
    private static void spikesMeetWithin(String what, int asked, int kept, int apart) {
        WarpSearch x = spikes(asked, kept);
        for (int w = 0; w <= 15; w++) {
            x.band(w);
            same(what + ", apart " + apart + ", band " + w, x.distance(0), apart <= w ? 0 : 2 * HIGH * HIGH);
        }
    }

    private static void bestPath() {
        CHECK.sentence("of several (i - 1, j - 1) first", () -> {
            pathIs(2, new int[] {0, 0, 0}, new int[] {0, 0, 0}, 0, 17, 34);
            pathIs(2, new int[] {0, 0, 0}, new int[] {1, 1, 0}, 0, 17, 34);
            pathIs(2, new int[] {0, 0, 0}, new int[] {0, 0, 1}, 0, 17, 34);
        });
        CHECK.sentence("of several then (i - 1, j)", () ->
            pathIs(2, new int[] {0, 1, 0}, new int[] {1, 0, 1}, 0, 1, 18, 34));
        CHECK.sentence("where it costs least it is one of the others", () -> {
            pathIs(2, new int[] {1, 0, 0}, new int[] {0, 1, 0}, 0, 1, 18, 34);
            pathIs(2, new int[] {0, 1, 0}, new int[] {1, 0, 0}, 0, 16, 33, 34);
        });
        CHECK.sentence("it costs least to the pair before, however dear the pair behind it is", () -> {
            pathIs(2, new int[] {0, 0, 5}, new int[] {0, 5, -10}, 0, 16, 33, 34);
            pathIs(2, new int[] {0, 5, -10}, new int[] {0, 0, 5}, 0, 1, 18, 34);
            pathIs(2, new int[] {0, 9, -9}, new int[] {0, 9, 9}, 0, 17, 34);
        });
        CHECK.sentence("of the pairs that a path may have before it: along the edges there is one", () -> {
            pathIs(3, new int[] {0, 9, 9, 9}, new int[] {0, 0, 0, 9}, 0, 1, 2, 19, 35, 51);
            pathIs(3, new int[] {0, 0, 0, 9}, new int[] {0, 9, 9, 9}, 0, 16, 32, 49, 50, 51);
        });
        CHECK.sentence("of the pairs that a path may have before it: at the band's edge there are two", () -> {
            pathIs(1, new int[] {0, 9, 9, 9}, new int[] {0, 0, 0, 9}, 0, 1, 18, 35, 51);
            pathIs(1, new int[] {0, 0, 0, 9}, new int[] {0, 9, 9, 9}, 0, 16, 33, 50, 51);
            pathIs(0, new int[] {0, 0, 0, 9}, new int[] {0, 9, 9, 9}, 0, 17, 34, 51);
        });
    }

    private static void bounds() {
        CHECK.sentence("ENDS: the first and the last number alone", () -> {
            WarpSearch two = Given.asking(2, 3, -4);
            two.keep(0);
            Given.set(two, 0, 0);
            same("of 2", two.bound(0, 0), 25);
            WarpSearch x = Given.asking(16);
            x.keep(0);
            for (int i = 0; i < 16; i++) {
                Given.setAll(x, 16, 0);
                x.ask(i, 6);
                same("number " + i, x.bound(0, 0), i == 0 || i == 15 ? 36 : 0);
            }
        });
        CHECK.sentence("HULL and OTHER HULL: q(i - w) .. q(i + w), as far as there are such", () -> {
            for (int asked = 0; asked < 16; asked++) {
                for (int kept = 0; kept < 16; kept++) {
                    hullReaches(asked, kept);
                }
            }
        });
        CHECK.sentence("HULL: the numbers between the least and the greatest", () -> {
            WarpSearch x = Given.asking(3, -2, 5, 1);
            int[] numbers = {-4, -3, -2, 0, 5, 6, 7};
            for (int v : numbers) {
                Given.set(x, 0, v, 1);
                x.keep(0);
            }
            Given.set(x, -2, 5, 1);
            x.band(1);
            int[] due = {4, 1, 0, 0, 0, 1, 4};
            for (int row = 0; row < due.length; row++) {
                same("at " + numbers[row], x.bound(row, 1), due[row]);
            }
        });
        CHECK.sentence("OTHER HULL: the same with q and c changing places", () -> {
            int[] numbers = {-4, -3, -2, 0, 5, 6, 7};
            int[] due = {4, 1, 0, 0, 0, 1, 4};
            WarpSearch x = Given.asking(3, -2, 5, 1);
            x.keep(0);
            x.band(1);
            for (int i = 0; i < due.length; i++) {
                Given.set(x, 0, numbers[i], 1);
                same("at " + numbers[i], x.bound(0, 2), due[i]);
            }
        });
        CHECK.sentence("none of the bounds is above the distance", TermEdgeTest::noBoundIsAbove);
    }

    private static void hullReaches(int asked, int kept) {
        WarpSearch x = spikes(asked, kept);
        for (int w = 0; w <= 15; w++) {
            x.band(w);
            // In a band of 0 the hull at the other spike's place is that spike alone.
            int outside = w == 0 ? 2 : 1;
            int due = Math.abs(asked - kept) <= w ? 0 : outside * HIGH * HIGH;
            same("spikes " + asked + " and " + kept + ", band " + w + ", hull", x.bound(0, 1), due);
            same("spikes " + asked + " and " + kept + ", band " + w + ", other hull", x.bound(0, 2), due);
        }
    }

    private static void noBoundIsAbove() {
        long seed = 1;
        for (int round = 0; round < 500; round++) {
            int n = 2 + round % 15;
            WarpSearch x = Given.asking(n);
            for (int i = 0; i < 2 * n; i++) {
                seed = seed * 6364136223846793005L + 1442695040888963407L;
                x.ask(i % n, (int) Long.remainderUnsigned(seed >>> 33, 2 * HIGH + 1) - HIGH);
                if (i == n - 1) {
                    x.keep(0);
                }
            }
            for (int w = 0; w <= 15; w++) {
                x.band(w);
                for (int which = 0; which <= 2; which++) {
                    CHECK.same("round " + round + ", band " + w + ", bound " + which,
                            x.bound(0, which) <= x.distance(0), true);
                }
            }
        }
    }

    private static void list() {
        CHECK.sentence("a list of at most k rows", () -> {
            WarpSearch x = Given.rows(12);
            for (int k = 1; k <= 12; k++) {
                same("search", x.search(k), k);
                same("its last", x.found(k - 1, false), k - 1);
                int behind = k;
                CHECK.refused("behind it", Check.INDEX, () -> x.found(behind, false));
            }
        });
        CHECK.sentence("by rising distance, whatever the order they come in", () -> {
            WarpSearch falling = firsts(5, 4, 3, 2, 1);
            falling.search(5);
            listIs(falling, new int[] {4, 3, 2, 1, 0}, new int[] {1, 4, 9, 16, 25});
            WarpSearch rising = firsts(1, 2, 3, 4, 5);
            rising.search(5);
            listIs(rising, new int[] {0, 1, 2, 3, 4}, new int[] {1, 4, 9, 16, 25});
        });
        CHECK.sentence("of equal ones the one that came first", () -> {
            WarpSearch x = firsts(2, -1, -2, 1, 2, 1);
            x.search(6);
            listIs(x, new int[] {1, 3, 5, 0, 2, 4}, new int[] {1, 1, 1, 4, 4, 4});
            x.search(4);
            listIs(x, new int[] {1, 3, 5, 0}, new int[] {1, 1, 1, 4});
        });
        CHECK.sentence("the last one of k leaves it", () -> {
            WarpSearch x = firsts(4, 3, 2, 1, 0);
            for (int k = 1; k <= 4; k++) {
                x.search(k);
                same("nearest of " + k, x.found(0, false), 4);
                same("last of " + k, x.found(k - 1, false), 5 - k);
            }
        });
        CHECK.sentence("of equal last ones the one that came last leaves", () -> {
            WarpSearch x = firsts(3, -3, 1);
            x.search(2);
            listIs(x, new int[] {2, 0}, new int[] {1, 9});
        });
    }

    private static void limit() {
        CHECK.sentence("there is a limit when the list has k rows, otherwise there is none", () -> {
            for (int k = 1; k <= 12; k++) {
                WarpSearch x = Given.rows(12);
                x.search(k);
                countsAre(x, 12 - k, 0, 0, k, 0);
            }
        });
        CHECK.sentence("without a limit none is passed over or given up", () -> {
            WarpSearch x = firsts(0, 1000, 0, -1000);
            x.search(4);
            countsAre(x, 0, 0, 0, 4, 0);
            listIs(x, new int[] {0, 2, 1, 3}, new int[] {0, 0, 1_000_000, 1_000_000});
        });
        CHECK.sentence("a limit of 0 is one", () -> {
            WarpSearch x = firsts(0, 0, 1, 0);
            x.search(1);
            countsAre(x, 3, 0, 0, 1, 0);
            listIs(x, new int[] {0}, new int[] {0});
        });
        CHECK.sentence("the limit is the distance of the last one of the list", () -> {
            WarpSearch x = firsts(1, 9, 8, 5, 6, 5);
            x.search(2);
            listIs(x, new int[] {0, 3}, new int[] {1, 25});
            countsAre(x, 2, 0, 0, 4, 0);
        });
    }

    private static void passedOver() {
        int[] zeros = {0, 0, 0, 0};
        CHECK.sentence("ENDS not below the limit", () -> {
            second(0, zeros, new int[] {1, 0, 0, 1}, new int[] {2, 0, 0, 0}, false, 1, 0, 0, 1, 0);
            second(0, zeros, new int[] {1, 0, 0, 1}, new int[] {1, 0, 0, 1}, false, 1, 0, 0, 1, 0);
            second(0, zeros, new int[] {1, 0, 0, 1}, new int[] {1, 0, 0, 0}, true, 0, 0, 0, 2, 0);
        });
        CHECK.sentence("HULL not below the limit", () -> {
            int[] question = {2, 2, 2, 1};
            int[] other = {2, 0, 0, 0};
            second(1, question, new int[] {3, 2, 0, 3}, other, false, 0, 1, 0, 1, 0);
            second(1, question, new int[] {4, 3, 1, 2}, other, true, 0, 0, 0, 2, 0);
        });
        CHECK.sentence("OTHER HULL not below the limit", () -> {
            int[] question = {1, 2, 0, 2};
            int[] other = {1, 2, 1, 1};
            second(1, question, new int[] {2, 2, 1, 2}, other, false, 0, 0, 1, 1, 0);
            second(1, question, new int[] {2, 3, 0, 3}, other, true, 0, 0, 0, 2, 0);
        });
        CHECK.sentence("with the first one that is not below the limit", () -> {
            second(0, zeros, new int[] {1, 0, 0, 0}, new int[] {3, 3, 3, 3}, false, 1, 0, 0, 1, 0);
            second(0, zeros, new int[] {1, 0, 0, 0}, new int[] {0, 3, 3, 0}, false, 0, 1, 0, 1, 0);
        });
    }

    /** Each row's costs reach the limit in the line that is told, and there for the first time. */
    private static void givenUp() {
        CHECK.sentence("line 1 is all not below the limit", () -> {
            second(1, new int[] {0, 0, 2, 0}, new int[] {0, -2, 2, 2}, new int[] {2, 2, 0, 0}, false, 0, 0, 0, 2, 1);
            second(1, new int[] {0, 0, 2, 0}, new int[] {0, -2, 4, -1}, new int[] {2, 2, 0, 0}, true, 0, 0, 0, 2, 0);
        });
        CHECK.sentence("line 2 is all not below the limit", () -> {
            second(1, new int[] {1, 2, 0, 2}, new int[] {1, 1, 1, 2}, new int[] {2, 1, 0, 2}, false, 0, 0, 0, 2, 1);
            second(1, new int[] {1, 2, 0, 2}, new int[] {0, 2, -1, 3}, new int[] {2, 1, 0, 2}, true, 0, 0, 0, 2, 0);
        });
        CHECK.sentence("the last line is all not below the limit", () -> {
            second(1, new int[] {0, 1, 1, 0}, new int[] {1, 2, 1, 2}, new int[] {2, 0, 0, 1}, false, 0, 0, 0, 2, 1);
            second(1, new int[] {0, 1, 1, 0}, new int[] {1, 3, 2, 1}, new int[] {2, 0, 0, 1}, true, 0, 0, 0, 2, 0);
        });
        CHECK.sentence("not given up, but the distance is not below the limit: nothing comes of it", () -> {
            second(1, new int[] {0, 0, 2, 1}, new int[] {2, 0, 2, -1}, new int[] {2, 2, 1, 0}, false, 0, 0, 0, 2, 1);
            second(1, new int[] {0, 0, 2, 1}, new int[] {-1, 0, 4, 3}, new int[] {2, 2, 1, 0}, false, 0, 0, 0, 2, 0);
            second(1, new int[] {2, 0, 1, 1}, new int[] {1, 0, 2, 0}, new int[] {1, 1, 0, 0}, false, 0, 0, 0, 2, 1);
            second(1, new int[] {2, 0, 1, 1}, new int[] {3, 1, 2, 0}, new int[] {1, 1, 0, 0}, false, 0, 0, 0, 2, 0);
        });
        CHECK.sentence("of the last line, its first pair lies in a band of n - 1 alone", () -> {
            int[] question = new int[16];
            question[0] = 4;
            int[] first = new int[16];
            first[15] = -1;
            int[] other = {0, 5, 0, 0, 1, 1, 0, 0, 0, 0, 0, 0, 0, 0, 0, 0};
            second(14, question, first, other, false, 0, 0, 0, 2, 1);
            second(15, question, first, other, false, 0, 0, 0, 2, 0);
        });
    }

    /** What becomes of a second row, once the first one has set the limit for one nearest. */
    private static void second(int w, int[] question, int[] first, int[] other, boolean comes, int... counts) {
        WarpSearch x = Given.asking(question.length, first);
        x.keep(0);
        Given.set(x, other);
        x.keep(0);
        Given.set(x, question);
        x.band(w);
        x.search(1);
        same("the nearest", x.found(0, false), comes ? 1 : 0);
        same("its distance", x.found(0, true), x.distance(comes ? 1 : 0));
        countsAre(x, counts);
    }

    /** Rows and question of 16 zeros but for one number each. */
    private static WarpSearch spikes(int asked, int kept) {
        WarpSearch x = Given.asking(16);
        x.ask(kept, HIGH);
        x.keep(0);
        x.ask(kept, 0);
        x.ask(asked, HIGH);
        return x;
    }

    /** Rows of two numbers, these and 0, and the question (0, 0). */
    private static WarpSearch firsts(int... numbers) {
        WarpSearch x = new WarpSearch();
        for (int v : numbers) {
            x.ask(0, v);
            x.keep(0);
        }
        x.ask(0, 0);
        return x;
    }

    private static void pathIs(int w, int[] question, int[] row, int... pairs) {
        WarpSearch x = Given.asking(row.length, row);
        x.keep(0);
        Given.set(x, question);
        x.band(w);
        same("pairs", x.steps(0), pairs.length);
        for (int k = 0; k < pairs.length; k++) {
            int at = k;
            CHECK.same("pair " + k, Check.outcome(() -> x.pair(0, at)), "" + pairs[k]);
        }
    }

    private static void listIs(WarpSearch x, int[] places, int[] distances) {
        for (int i = 0; i < places.length; i++) {
            int at = i;
            CHECK.same("place of " + i, Check.outcome(() -> x.found(at, false)), "" + places[i]);
            CHECK.same("distance of " + i, Check.outcome(() -> x.found(at, true)), "" + distances[i]);
        }
        CHECK.refused("end of the list", Check.INDEX, () -> x.found(places.length, false));
    }

    private static void countsAre(WarpSearch x, int... due) {
        for (int what = 0; what < due.length; what++) {
            same("count " + what, x.count(what), due[what]);
        }
    }

    /** Every row of a search is either passed over or compared. */
    private static int weighed(WarpSearch x) {
        return x.count(0) + x.count(1) + x.count(2) + x.count(3);
    }

    private static void same(String what, int got, int due) {
        CHECK.same(what, got, due);
    }
}
