/** One call of the face with its arguments, so that it can be made on the program and on the model. */
record Call(String name, int a, int b) {
    static Call of(String name, int a) {
        return new Call(name, a, 0);
    }

    static Call of(String name, int a, int b) {
        return new Call(name, a, b);
    }

    /** The answer, "done" where there is none, or what was thrown. */
    String on(WarpSearch x) {
        return switch (name) {
            case "begin" -> Check.outcome(() -> x.begin(a));
            case "ask" -> Check.outcome(() -> x.ask(a, b));
            case "keep" -> Check.outcome(() -> x.keep(a));
            case "recall" -> Check.outcome(() -> x.recall(a));
            case "band" -> Check.outcome(() -> x.band(a));
            case "distance" -> Check.outcome(() -> x.distance(a));
            case "bound" -> Check.outcome(() -> x.bound(a, b));
            case "steps" -> Check.outcome(() -> x.steps(a));
            case "pair" -> Check.outcome(() -> x.pair(a, b));
            case "search" -> Check.outcome(() -> x.search(a));
            case "found" -> Check.outcome(() -> x.found(a, b != 0));
            case "guess" -> Check.outcome(() -> x.guess(a));
            case "count" -> Check.outcome(() -> x.count(a));
            case "push" -> Check.outcome(() -> x.push(a));
            case "scan" -> Check.outcome(() -> x.scan(a));
            case "shift" -> Check.outcome(() -> x.shift(a));
            default -> throw new IllegalStateException(name);
        };
    }

    String on(Model x) {
        return switch (name) {
            case "begin" -> Check.outcome(() -> x.begin(a));
            case "ask" -> Check.outcome(() -> x.ask(a, b));
            case "keep" -> Check.outcome(() -> x.keep(a));
            case "recall" -> Check.outcome(() -> x.recall(a));
            case "band" -> Check.outcome(() -> x.band(a));
            case "distance" -> Check.outcome(() -> x.distance(a));
            case "bound" -> Check.outcome(() -> x.bound(a, b));
            case "steps" -> Check.outcome(() -> x.steps(a));
            case "pair" -> Check.outcome(() -> x.pair(a, b));
            case "search" -> Check.outcome(() -> x.search(a));
            case "found" -> Check.outcome(() -> x.found(a, b != 0));
            case "guess" -> Check.outcome(() -> x.guess(a));
            case "count" -> Check.outcome(() -> x.count(a));
            case "push" -> Check.outcome(() -> x.push(a));
            case "scan" -> Check.outcome(() -> x.scan(a));
            case "shift" -> Check.outcome(() -> x.shift(a));
            default -> throw new IllegalStateException(name);
        };
    }

    @Override
    public String toString() {
        return switch (name) {
            case "ask", "bound", "pair" -> name + "(" + a + ", " + b + ")";
            case "found" -> name + "(" + a + ", " + (b != 0) + ")";
            default -> name + "(" + a + ")";
        };
    }
}
