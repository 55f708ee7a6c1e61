import java.util.ArrayList;
import java.util.Arrays;
import java.util.Comparator;
import java.util.HashMap;
import java.util.List;
import java.util.Map;

/**
 * The document once more, written for plainness and not for speed, so that random runs of calls can
 * be held against it. Least costs come from a recursion over the pairs, not from lines of a table.
 */
final class Model {
    record Hit(int place, int distance) {
    }

    record Kept(int[] numbers, int label) {
    }

    private int n = 2;
    private int w = 0;
    private int[] question = new int[2];
    private List<Kept> rows = new ArrayList<>();
    private List<Integer> stream = new ArrayList<>();
    private List<Hit> hits = new ArrayList<>();
    private int[] counts = new int[5];

    void begin(int newN) {
        argument(newN >= 2 && newN <= 16);
        n = newN;
        question = new int[n];
        rows = new ArrayList<>();
        hits = new ArrayList<>();
    }

    int ask(int i, int v) {
        index(i >= 0 && i < n);
        argument(Math.abs((long) v) <= 1000);
        int was = question[i];
        question[i] = v;
        return was;
    }

    int keep(int label) {
        argument(label >= 0 && label <= 7);
        state(rows.size() < 12);
        rows.add(new Kept(question.clone(), label));
        return rows.size() - 1;
    }

    void recall(int row) {
        question = row(row).clone();
    }

    int band(int newW) {
        argument(newW >= 0 && newW <= 15);
        int was = w;
        w = newW;
        return was;
    }

    int distance(int row) {
        return distance(row(row));
    }

    int bound(int row, int which) {
        int[] c = row(row);
        argument(which >= 0 && which <= 2);
        return bound(c, which);
    }

    int steps(int row) {
        return path(row(row)).size();
    }

    int pair(int row, int k) {
        List<Integer> path = path(row(row));
        index(k >= 0 && k < path.size());
        return path.get(k);
    }

    int search(int k) {
        argument(k >= 1 && k <= 12);
        state(!rows.isEmpty());
        return searchAmong(rows.stream().map(Kept::numbers).toList(), k);
    }

    int found(int i, boolean distance) {
        index(i >= 0 && i < hits.size());
        return distance ? hits.get(i).distance() : hits.get(i).place();
    }

    int guess(int k) {
        search(k);
        int[] votes = new int[8];
        hits.forEach(h -> votes[rows.get(h.place()).label()]++);
        int most = Arrays.stream(votes).max().getAsInt();
        return hits.stream().map(h -> rows.get(h.place()).label())
                .filter(label -> votes[label] == most).findFirst().get();
    }

    int count(int what) {
        argument(what >= 0 && what <= 4);
        return counts[what];
    }

    int push(int v) {
        argument(Math.abs((long) v) <= 1000);
        state(stream.size() < 64);
        stream.add(v);
        return stream.size();
    }

    int scan(int k) {
        argument(k >= 1 && k <= 12);
        state(stream.size() >= n);
        List<int[]> windows = new ArrayList<>();
        for (int s = 0; s + n <= stream.size(); s++) {
            windows.add(stream.subList(s, s + n).stream().mapToInt(v -> v).toArray());
        }
        return searchAmong(windows, k);
    }

    void shift(int many) {
        argument(many >= 0 && many <= stream.size());
        stream = new ArrayList<>(stream.subList(many, stream.size()));
    }

    private int[] row(int row) {
        index(row >= 0 && row < rows.size());
        return rows.get(row).numbers();
    }

    private int searchAmong(List<int[]> among, int k) {
        hits = new ArrayList<>();
        counts = new int[5];
        for (int place = 0; place < among.size(); place++) {
            int[] c = among.get(place);
            boolean limited = hits.size() == k;
            int limit = limited ? hits.get(k - 1).distance() : Integer.MAX_VALUE;
            int passing = 0;
            while (limited && passing <= 2 && bound(c, passing) < limit) {
                passing++;
            }
            if (limited && passing <= 2) {
                counts[passing]++;
                continue;
            }
            counts[3]++;
            if (limited && givenUp(c, limit)) {
                counts[4]++;
            } else if (!limited || distance(c) < limit) {
                hits.add(new Hit(place, distance(c)));
                hits.sort(Comparator.comparingInt(Hit::distance));
                hits = new ArrayList<>(hits.subList(0, Math.min(k, hits.size())));
            }
        }
        return hits.size();
    }

    private boolean givenUp(int[] c, int limit) {
        Map<Integer, Integer> known = new HashMap<>();
        for (int i = 0; i < n; i++) {
            boolean hope = false;
            for (int j = 0; j < n; j++) {
                hope |= inBand(i, j) && least(c, i, j, known) < limit;
            }
            if (!hope) {
                return true;
            }
        }
        return false;
    }

    private int bound(int[] c, int which) {
        return switch (which) {
            case 0 -> square(question[0] - c[0]) + square(question[n - 1] - c[n - 1]);
            case 1 -> hull(question, c);
            default -> hull(c, question);
        };
    }

    private int hull(int[] outer, int[] inner) {
        int sum = 0;
        for (int i = 0; i < n; i++) {
            int[] near = Arrays.copyOfRange(outer, Math.max(0, i - w), Math.min(n, i + w + 1));
            Arrays.sort(near);
            if (inner[i] < near[0]) {
                sum += square(near[0] - inner[i]);
            } else if (inner[i] > near[near.length - 1]) {
                sum += square(inner[i] - near[near.length - 1]);
            }
        }
        return sum;
    }

    private int distance(int[] c) {
        return least(c, n - 1, n - 1, new HashMap<>());
    }

    private int least(int[] c, int i, int j, Map<Integer, Integer> known) {
        Integer before = known.get(100 * i + j);
        if (before != null) {
            return before;
        }
        int here = square(question[i] - c[j]);
        int least = i == 0 && j == 0 ? here : Integer.MAX_VALUE;
        for (int[] p : before(i, j)) {
            least = Math.min(least, here + least(c, p[0], p[1], known));
        }
        known.put(100 * i + j, least);
        return least;
    }

    private List<Integer> path(int[] c) {
        Map<Integer, Integer> known = new HashMap<>();
        List<Integer> path = new ArrayList<>();
        int[] at = {n - 1, n - 1};
        while (at != null) {
            path.add(0, 16 * at[0] + at[1]);
            at = before(at[0], at[1]).stream()
                    .min(Comparator.comparingInt(p -> least(c, p[0], p[1], known))).orElse(null);
        }
        return path;
    }

    /** In the order in which the best path prefers them; min() keeps the first of equals. */
    private List<int[]> before(int i, int j) {
        List<int[]> all = new ArrayList<>();
        for (int[] p : new int[][] {{i - 1, j - 1}, {i - 1, j}, {i, j - 1}}) {
            if (p[0] >= 0 && p[1] >= 0 && inBand(p[0], p[1])) {
                all.add(p);
            }
        }
        return all;
    }

    private boolean inBand(int i, int j) {
        return Math.abs(i - j) <= w;
    }

    private static int square(int v) {
        return v * v;
    }

    private static void argument(boolean good) {
        if (!good) {
            throw new IllegalArgumentException();
        }
    }

    private static void index(boolean good) {
        if (!good) {
            throw new IndexOutOfBoundsException();
        }
    }

    private static void state(boolean good) {
        if (!good) {
            throw new IllegalStateException();
        }
    }
}
