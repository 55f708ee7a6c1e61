import java.util.Arrays;

/**
 * A collection of rows of numbers with labels, compared with a question by warping one along the
 * other within a band; the nearest are found by bounds that pass over what cannot be near, and by
 * giving up comparisons that cannot end well, counted all of them; windows of a stream are searched
 * alike, and paths of comparisons are shown.
 */
public final class WarpSearch {
    /** Below every distance, label and number: stands for "there is none". */
    public static final int NONE = -1;

    private static final int LEAST_LENGTH = 2;
    private static final int MOST_LENGTH = 16;
    private static final int MOST_STEPS = 2 * MOST_LENGTH - 1;
    private static final int MOST_ROWS = 12;
    private static final int MOST_LABEL = 7;
    private static final int MOST_BAND = 15;
    private static final int MOST_VALUE = 1000;
    private static final int MOST_IN_STREAM = 64;

    private static final int ENDS = 0;
    private static final int HULL = 1;
    private static final int OTHER_HULL = 2;
    private static final int COMPARED = 3;
    private static final int GIVEN_UP = 4;

    private int length = LEAST_LENGTH;
    private int width = 0;
    private final int[] question = new int[MOST_LENGTH];

    private final int[] rows = new int[MOST_ROWS * MOST_LENGTH];
    private final int[] labels = new int[MOST_ROWS];
    private int rowCount = 0;

    private final int[] stream = new int[MOST_IN_STREAM];
    private int streamCount = 0;

    private final Comparison comparison = new Comparison();
    private final Nearest nearest = new Nearest();
    private final int[] counts = new int[GIVEN_UP + 1];

    /** No row, no stream, band 0, and a question of two zeros. */
    public WarpSearch() {
    }

    /** Rows have n numbers from now on; collection and question start anew. */
    public void begin(int n) throws IllegalArgumentException {
        if (n < LEAST_LENGTH || n > MOST_LENGTH) {
            throw new IllegalArgumentException("n is not 2 .. 16");
        }
        length = n;
        rowCount = 0;
        Arrays.fill(question, 0);
        // The list's rows are gone, but the counts still tell of the latest search.
        nearest.startFor(1);
    }

    /** Number i of the question becomes v: what it was. */
    public int ask(int i, int v) throws IndexOutOfBoundsException, IllegalArgumentException {
        if (i < 0 || i >= length) {
            throw new IndexOutOfBoundsException("the question has no such number");
        }
        if (!isValue(v)) {
            throw new IllegalArgumentException("v is not -1000 .. 1000");
        }
        int before = question[i];
        question[i] = v;
        return before;
    }

    /** The question comes into the collection as a row with a label: its number. */
    public int keep(int label) throws IllegalArgumentException, IllegalStateException {
        if (label < 0 || label > MOST_LABEL) {
            throw new IllegalArgumentException("label is not 0 .. 7");
        }
        if (rowCount >= MOST_ROWS) {
            throw new IllegalStateException("there are 12 rows");
        }
        int row = rowCount;
        System.arraycopy(question, 0, rows, row * MOST_LENGTH, length);
        labels[row] = label;
        rowCount = row + 1;
        return row;
    }

    /** A row of the collection becomes the question. */
    public void recall(int row) throws IndexOutOfBoundsException {
        checkRow(row);
        System.arraycopy(rows, row * MOST_LENGTH, question, 0, length);
    }

    /** The band becomes w: what it was. */
    public int band(int w) throws IllegalArgumentException {
        if (w < 0 || w > MOST_BAND) {
            throw new IllegalArgumentException("w is not 0 .. 15");
        }
        int before = width;
        width = w;
        return before;
    }

    /** The distance of the question and a row. */
    public int distance(int row) throws IndexOutOfBoundsException {
        checkRow(row);
        placeRow(row);
        return comparison.leastCost(NONE);
    }

    /** A bound for the question and a row: 0 ends, 1 hull, 2 other hull. */
    public int bound(int row, int which) throws IndexOutOfBoundsException, IllegalArgumentException {
        checkRow(row);
        if (which < ENDS || which > OTHER_HULL) {
            throw new IllegalArgumentException("which is not 0 .. 2");
        }
        placeRow(row);
        return comparison.lowerBound(which);
    }

    /** How many pairs the best path for the question and a row has. */
    public int steps(int row) throws IndexOutOfBoundsException {
        checkRow(row);
        placeRow(row);
        return comparison.tracePath();
    }

    /** Pair k of the best path for the question and a row: 16 * i + j. */
    public int pair(int row, int k) throws IndexOutOfBoundsException {
        checkRow(row);
        placeRow(row);
        int many = comparison.tracePath();
        if (k < 0 || k >= many) {
            throw new IndexOutOfBoundsException("the path has no such pair");
        }
        return comparison.pairOfPath(k);
    }

    /** Searches for the k nearest rows of the collection: how many there are in the list. */
    public int search(int k) throws IllegalArgumentException, IllegalStateException {
        checkWanted(k);
        checkAnyRow();
        return searchAmong(rows, rowCount, MOST_LENGTH, k);
    }

    /** Row (or place of the window) i of the list of the latest search, or its distance. */
    public int found(int i, boolean distance) throws IndexOutOfBoundsException {
        if (i < 0 || i >= nearest.size) {
            throw new IndexOutOfBoundsException("the list has no such row");
        }
        return distance ? nearest.distances[i] : nearest.places[i];
    }

    /** The label that most of the k nearest rows have, found by a search for them. */
    public int guess(int k) throws IllegalArgumentException, IllegalStateException {
        checkWanted(k);
        checkAnyRow();
        int many = searchAmong(rows, rowCount, MOST_LENGTH, k);
        int best = NONE;
        int mostVotes = 0;
        for (int i = 0; i < many; i++) {
            int label = labels[nearest.places[i]];
            int votes = votesFor(label);
            // Only more votes win, so the label met first in the list stays among equals.
            if (votes > mostVotes) {
                mostVotes = votes;
                best = label;
            }
        }
        return best;
    }

    /** A count of the latest search: 0 .. 2 passed over by that bound, 3 compared, 4 given up. */
    public int count(int what) throws IllegalArgumentException {
        if (what < ENDS || what > GIVEN_UP) {
            throw new IllegalArgumentException("what is not 0 .. 4");
        }
        return counts[what];
    }

    /** A number more in the stream: how many there are. */
    public int push(int v) throws IllegalArgumentException, IllegalStateException {
        if (!isValue(v)) {
            throw new IllegalArgumentException("v is not -1000 .. 1000");
        }
        if (streamCount >= MOST_IN_STREAM) {
            throw new IllegalStateException("there are 64 numbers");
        }
        stream[streamCount] = v;
        streamCount++;
        return streamCount;
    }

    /** Searches for the k nearest windows of the stream: how many there are in the list. */
    public int scan(int k) throws IllegalArgumentException, IllegalStateException {
        checkWanted(k);
        if (streamCount < length) {
            throw new IllegalStateException("there is no window");
        }
        return searchAmong(stream, streamCount - length + 1, 1, k);
    }

    /** The stream loses its first numbers, so many. */
    public void shift(int many) throws IllegalArgumentException {
        if (many < 0 || many > streamCount) {
            throw new IllegalArgumentException("the stream has not so many numbers");
        }
        System.arraycopy(stream, many, stream, 0, streamCount - many);
        streamCount -= many;
    }

    private static boolean isValue(int v) {
        return v >= -MOST_VALUE && v <= MOST_VALUE;
    }

    private void checkRow(int row) {
        if (row < 0 || row >= rowCount) {
            throw new IndexOutOfBoundsException("there is no such row");
        }
    }

    private void checkAnyRow() {
        if (rowCount == 0) {
            throw new IllegalStateException("there is no row");
        }
    }

    private static void checkWanted(int k) {
        if (k < 1 || k > MOST_ROWS) {
            throw new IllegalArgumentException("k is not 1 .. 12");
        }
    }

    private void placeRow(int row) {
        comparison.placeQuestion(question, length, width);
        comparison.placeBeside(rows, row * MOST_LENGTH);
    }

    /** Rows and windows differ only in how far apart in their source they begin. */
    private int searchAmong(int[] source, int many, int apart, int k) {
        nearest.startFor(k);
        Arrays.fill(counts, 0);
        comparison.placeQuestion(question, length, width);
        for (int place = 0; place < many; place++) {
            comparison.placeBeside(source, place * apart);
            weigh(place);
        }
        return nearest.size;
    }

    private void weigh(int place) {
        int limit = nearest.limit();
        int passing = limit == NONE ? NONE : passingBound(limit);
        if (passing != NONE) {
            counts[passing]++;
            return;
        }
        counts[COMPARED]++;
        int cost = comparison.leastCost(limit);
        if (cost == NONE) {
            counts[GIVEN_UP]++;
        } else if (limit == NONE || cost < limit) {
            nearest.insert(place, cost);
        }
    }

    private int passingBound(int limit) {
        for (int which = ENDS; which <= OTHER_HULL; which++) {
            if (comparison.lowerBound(which) >= limit) {
                return which;
            }
        }
        return NONE;
    }

    private int votesFor(int label) {
        int votes = 0;
        for (int i = 0; i < nearest.size; i++) {
            if (labels[nearest.places[i]] == label) {
                votes++;
            }
        }
        return votes;
    }

    /** The question and one row beside it: bounds, least costs and the best path for the two. */
    private static final class Comparison {
        /** Above every cost: 31 squares of at most 2000. */
        private static final int FAR = 1_000_000_000;

        private final int[] question = new int[MOST_LENGTH];
        private final int[] row = new int[MOST_LENGTH];
        private final int[] costs = new int[MOST_LENGTH * MOST_LENGTH];
        private final int[] path = new int[MOST_STEPS];
        private int pathStart = MOST_STEPS;
        private int length = LEAST_LENGTH;
        private int width = 0;

        void placeQuestion(int[] asked, int newLength, int newWidth) {
            System.arraycopy(asked, 0, question, 0, newLength);
            length = newLength;
            width = newWidth;
        }

        void placeBeside(int[] source, int from) {
            System.arraycopy(source, from, row, 0, length);
        }

        int lowerBound(int which) {
            if (which == ENDS) {
                return square(question[0] - row[0]) + square(question[length - 1] - row[length - 1]);
            }
            return which == HULL ? hullBound(question, row) : hullBound(row, question);
        }

        private int hullBound(int[] hull, int[] inner) {
            int sum = 0;
            for (int i = 0; i < length; i++) {
                int low = hull[i];
                int high = hull[i];
                int last = lastInBand(i);
                for (int p = firstInBand(i); p <= last; p++) {
                    low = Math.min(low, hull[p]);
                    high = Math.max(high, hull[p]);
                }
                sum += square(gap(inner[i], low, high));
            }
            return sum;
        }

        private static int gap(int v, int low, int high) {
            if (v < low) {
                return low - v;
            }
            return v > high ? v - high : 0;
        }

        /** The distance, or NONE when a whole line of costs is not below the limit. */
        int leastCost(int limit) {
            for (int i = 0; i < length; i++) {
                int least = fillLine(i);
                if (limit != NONE && least >= limit) {
                    return NONE;
                }
            }
            return costAt(length - 1, length - 1);
        }

        private int fillLine(int i) {
            int least = FAR;
            int last = lastInBand(i);
            for (int j = firstInBand(i); j <= last; j++) {
                int cost = leastBefore(i, j) + square(question[i] - row[j]);
                costs[MOST_LENGTH * i + j] = cost;
                least = Math.min(least, cost);
            }
            return least;
        }

        private int leastBefore(int i, int j) {
            if (i == 0 && j == 0) {
                return 0;
            }
            return Math.min(costAt(i - 1, j - 1), Math.min(costAt(i - 1, j), costAt(i, j - 1)));
        }

        private int costAt(int i, int j) {
            boolean onPath = i >= 0 && j >= 0 && i - j <= width && j - i <= width;
            return onPath ? costs[MOST_LENGTH * i + j] : FAR;
        }

        /** Finds the best path: how many pairs it has. */
        int tracePath() {
            leastCost(NONE);
            int i = length - 1;
            int j = length - 1;
            pathStart = MOST_STEPS;
            // Found from its end, the path fills its array from the end too. Before (0, 0) all three
            // are FAR: that steps out of the rows and ends the loop.
            while (pathStart > 0 && i >= 0 && j >= 0) {
                pathStart--;
                path[pathStart] = MOST_LENGTH * i + j;
                int both = costAt(i - 1, j - 1);
                int up = costAt(i - 1, j);
                int back = costAt(i, j - 1);
                boolean stepBoth = both <= up && both <= back;
                boolean stepUp = stepBoth || up <= back;
                boolean stepBack = stepBoth || !stepUp;
                i -= stepUp ? 1 : 0;
                j -= stepBack ? 1 : 0;
            }
            return MOST_STEPS - pathStart;
        }

        int pairOfPath(int k) {
            return path[pathStart + k];
        }

        private int firstInBand(int i) {
            return i > width ? i - width : 0;
        }

        private int lastInBand(int i) {
            return i + width < length ? i + width : length - 1;
        }

        private static int square(int v) {
            return v * v;
        }
    }

    /** The list of a search: at most so many places as are wanted, by rising distance. */
    private static final class Nearest {
        private final int[] places = new int[MOST_ROWS];
        private final int[] distances = new int[MOST_ROWS];
        private int size = 0;
        private int wanted = 1;

        void startFor(int newWanted) {
            wanted = newWanted;
            size = 0;
        }

        int limit() {
            return size == wanted ? distances[size - 1] : NONE;
        }

        /** In a full list the last one leaves; behind equals, since they came first. */
        void insert(int place, int cost) {
            int at = Math.min(size, wanted - 1);
            while (at > 0 && distances[at - 1] > cost) {
                places[at] = places[at - 1];
                distances[at] = distances[at - 1];
                at--;
            }
            places[at] = place;
            distances[at] = cost;
            size = Math.min(size + 1, wanted);
        }
    }
}
