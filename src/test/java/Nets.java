/** Nets that several tests use. */
final class Nets {
    private Nets() {
    }

    /** Knots without sights. */
    static WaysTold knots(int many) {
        WaysTold x = new WaysTold();
        for (int i = 0; i < many; i++) {
            x.knot(0);
        }
        return x;
    }

    /** Rows and columns of knots, the streets without names; knot = row * columns + column. */
    static WaysTold grid(int rows, int columns) {
        WaysTold x = knots(rows * columns);
        for (int r = 0; r < rows; r++) {
            for (int c = 0; c < columns; c++) {
                int k = r * columns + c;
                if (c + 1 < columns) {
                    x.street(k, 1, k + 1, 3, 0);
                }
                if (r + 1 < rows) {
                    x.street(k, 2, k + columns, 0, 0);
                }
            }
        }
        return x;
    }

    /** Knots from west to east, each joined to the next. */
    static WaysTold line(int many) {
        return grid(1, many);
    }

    /** A line whose last knot leads on east to the first. */
    static WaysTold ring(int many) {
        WaysTold x = line(many);
        x.street(many - 1, 1, 0, 3, 0);
        return x;
    }

    static void say(WaysTold x, int... sayings) {
        x.hush();
        for (int s : sayings) {
            x.say(s / 10, s % 10);
        }
    }
}
