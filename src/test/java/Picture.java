import java.util.ArrayList;
import java.util.List;

/** All that later calls can show of an object: each part is read from a new object of its own. */
final class Picture {
    private static final int MOST_CALLS = 512;

    private static final List<List<Call>> PARTS = List.of(latest(), asked(), rows(), labels(), comparisons(),
            searches(), stream());

    private Picture() {
    }

    /** The number that a stream must have at a place for the picture to show it; all of them differ. */
    static int streamNumber(int place) {
        return 7 * place - 200;
    }

    /** How many calls may come before every part of the picture. */
    static int room() {
        return MOST_CALLS - PARTS.stream().mapToInt(List::size).max().getAsInt();
    }

    /** What is seen behind these calls. */
    static List<List<String>> after(List<Call> made) {
        if (made.size() > room()) {
            throw new IllegalStateException("more calls than an object is used for");
        }
        List<List<String>> seen = new ArrayList<>();
        for (List<Call> part : PARTS) {
            WarpSearch x = new WarpSearch();
            made.forEach(call -> call.on(x));
            seen.add(part.stream().map(call -> call.on(x)).toList());
        }
        return seen;
    }

    /** The first call of a picture that answers otherwise than in the other, or "none". */
    static String difference(List<List<String>> one, List<List<String>> other) {
        for (int part = 0; part < PARTS.size(); part++) {
            for (int i = 0; i < PARTS.get(part).size(); i++) {
                String left = one.get(part).get(i);
                String right = other.get(part).get(i);
                if (!left.equals(right)) {
                    return "part " + part + ", " + PARTS.get(part).get(i) + ": " + left + " for " + right;
                }
            }
        }
        return "none";
    }

    private static List<Call> latest() {
        List<Call> part = new ArrayList<>(list());
        for (int what = 0; what <= 4; what++) {
            part.add(Call.of("count", what));
        }
        return part;
    }

    private static List<Call> list() {
        List<Call> part = new ArrayList<>();
        for (int i = 0; i <= 12; i++) {
            part.add(Call.of("found", i, 0));
            part.add(Call.of("found", i, 1));
        }
        return part;
    }

    private static List<Call> asked() {
        List<Call> part = new ArrayList<>(question());
        part.add(Call.of("band", 0));
        return part;
    }

    private static List<Call> question() {
        List<Call> part = new ArrayList<>();
        for (int i = 0; i <= 16; i++) {
            part.add(Call.of("ask", i, 0));
        }
        return part;
    }

    private static List<Call> rows() {
        List<Call> part = new ArrayList<>();
        for (int row = 0; row <= 12; row++) {
            part.add(Call.of("recall", row));
            part.addAll(question());
        }
        part.add(Call.of("keep", 0));
        return part;
    }

    /** Where all rows differ, each one is its own nearest and shows its label. */
    private static List<Call> labels() {
        List<Call> part = new ArrayList<>();
        for (int row = 0; row < 12; row++) {
            part.add(Call.of("recall", row));
            part.add(Call.of("guess", 1));
        }
        return part;
    }

    private static List<Call> comparisons() {
        List<Call> part = new ArrayList<>();
        for (int row = 0; row < 12; row++) {
            part.add(Call.of("distance", row));
            part.add(Call.of("bound", row, 0));
            part.add(Call.of("bound", row, 1));
            part.add(Call.of("bound", row, 2));
            part.add(Call.of("steps", row));
            part.add(Call.of("pair", row, 1));
        }
        return part;
    }

    private static List<Call> searches() {
        List<Call> part = new ArrayList<>();
        part.add(Call.of("search", 12));
        part.addAll(latest());
        part.add(Call.of("scan", 12));
        part.addAll(latest());
        return part;
    }

    private static List<Call> stream() {
        List<Call> part = new ArrayList<>();
        part.add(Call.of("begin", 2));
        part.add(Call.of("band", 0));
        for (int place = 0; place < 63; place++) {
            part.add(Call.of("ask", 0, streamNumber(place)));
            part.add(Call.of("ask", 1, streamNumber(place + 1)));
            part.add(Call.of("scan", 1));
            part.add(Call.of("found", 0, 0));
            part.add(Call.of("found", 0, 1));
        }
        part.add(Call.of("push", 0));
        return part;
    }
}
