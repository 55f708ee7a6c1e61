/** Objects brought to where a test begins. */
final class Given {
    private Given() {
    }

    /** Rows of n numbers, and a question that begins with these. */
    static WarpSearch asking(int n, int... numbers) {
        WarpSearch x = new WarpSearch();
        x.begin(n);
        set(x, numbers);
        return x;
    }

    static void set(WarpSearch x, int... numbers) {
        for (int i = 0; i < numbers.length; i++) {
            x.ask(i, numbers[i]);
        }
    }

    static void setAll(WarpSearch x, int n, int v) {
        for (int i = 0; i < n; i++) {
            x.ask(i, v);
        }
    }

    /** So many rows of two numbers, row r being (r, 0) with label r % 8, and the question (0, 0). */
    static WarpSearch rows(int many) {
        WarpSearch x = new WarpSearch();
        for (int row = 0; row < many; row++) {
            x.ask(0, row);
            x.keep(row % 8);
        }
        x.ask(0, 0);
        return x;
    }

    /** Rows of n numbers, and 1, 2, .. in the stream, so many. */
    static WarpSearch stream(int n, int many) {
        WarpSearch x = asking(n);
        for (int v = 1; v <= many; v++) {
            x.push(v);
        }
        return x;
    }
}
