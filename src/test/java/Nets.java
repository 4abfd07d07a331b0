/** Nets that several tests use. */
final class Nets {
    private Nets() {
    }

    /** Knots without sights. */
    static WaysTold knots(int many) {
        WaysTold x = new WaysTold();
        for (int i = 0; i < many; i++) {
            x.knot(0);
        }
        return x;
    }

    /** Rows and columns of knots, the streets without names; knot = row * columns + column. */
    static WaysTold grid(int rows, int columns) {
        WaysTold x = knots(rows * columns);
        for (int r = 0; r < rows; r++) {
            for (int c = 0; c < columns; c++) {
                int k = r * columns + c;
                if (c + 1 < columns) {
                    x.street(k, 1, k + 1, 3, 0);
                }
                if (r + 1 < rows) {
                    x.street(k, 2, k + columns, 0, 0);
                }
            }
        }
        return x;
    }

    /** Knots from west to east, each joined to the next. */
    static WaysTold line(int many) {
        return grid(1, many);
    }

    /** A line whose last knot leads on east to the first. */
    static WaysTold ring(int many) {
        WaysTold x = line(many);
        x.street(many - 1, 1, 0, 3, 0);
        return x;
    }

    /** Straight on for 31 streets: 0 to 7 eastward, 0 to 7 northward, 8 to 23 eastward. */
    static WaysTold longRoad() {
        WaysTold x = crossing(8);
        x.street(7, 0, 8, 3, 0);
        for (int i = 8; i < 23; i++) {
            x.street(i, 1, i + 1, 3, 0);
        }
        return x;
    }

    /** Straight on and round for 30 streets: 0 to 5 eastward, 0 to 5 northward, 6 to 23 eastward. */
    static WaysTold longRing() {
        WaysTold x = crossing(6);
        x.street(5, 0, 6, 3, 0);
        for (int i = 6; i < 24; i++) {
            x.street(i, 1, (i + 1) % 24, 3, 0);
        }
        return x;
    }

    /** Of 24 knots the first ones, with a road that leads through them eastward, then northward. */
    private static WaysTold crossing(int many) {
        WaysTold x = knots(24);
        for (int i = 0; i + 1 < many; i++) {
            x.street(i, 1, i + 1, 3, 0);
            x.street(i, 0, i + 1, 2, 0);
        }
        x.street(many - 1, 1, 0, 2, 0);
        return x;
    }

    static void say(WaysTold x, int... sayings) {
        x.hush();
        for (int s : sayings) {
            x.say(s / 10, s % 10);
        }
    }

    static void sayTimes(WaysTold x, int saying, int times) {
        for (int i = 0; i < times; i++) {
            x.say(saying / 10, saying % 10);
        }
    }

    static void begin(WaysTold x, int knot, int facing, int... exits) {
        x.start(knot, facing);
        for (int exit : exits) {
            x.go(exit);
        }
    }

    static void goTimes(WaysTold x, int exit, int times) {
        for (int i = 0; i < times; i++) {
            x.go(exit);
        }
    }

    static void priceAll(WaysTold x, int v) {
        for (int kind = 0; kind <= 8; kind++) {
            x.price(kind, v);
        }
    }
}
