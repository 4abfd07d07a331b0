/** Numbers beside a range, and states in which much can be seen, for the tests of boundaries. */
final class Edges {
    private Edges() {
    }

    /**
     * Numbers that are not in least .. most: the nearest ones, those that come into it if a
     * product or a cast wraps around, and the ends of what an int can be.
     */
    static int[] beyond(int least, int most) {
        return new int[] {
            least - 1, most + 1, least + 65536, least + (1 << 30), least - (1 << 30),
            Integer.MIN_VALUE, Integer.MIN_VALUE + 9, Integer.MAX_VALUE
        };
    }

    /**
     * Nine knots in three rows, one apart with a street to itself; prices, what is allowed, what
     * is said, a walk, a route and two kept ones, none of them as in a new object.
     */
    static void town(WaysTold x) {
        for (int knot = 0; knot < 10; knot++) {
            x.knot(knot % 8);
        }
        for (int knot = 0; knot < 9; knot++) {
            if (knot % 3 < 2) {
                x.street(knot, 1, knot + 1, 3, 1 + knot % 9);
            }
            if (knot < 6) {
                x.street(knot, 2, knot + 3, 0, 9 - knot);
            }
        }
        x.street(9, 0, 9, 1, 4);
        x.price(0, 7);
        x.price(5, 0);
        x.allow(511 - 16);
        Nets.say(x, 0, 0, 10);
        x.start(0, 1);
        x.go(1);
        x.go(1);
        x.go(2);
        x.keep();
        x.start(3, 1);
        x.go(1);
        x.keep();
        x.walk(0, 1);
        Nets.say(x, 51, 61, 10, 30);
        x.start(4, 3);
        x.go(3);
        x.go(2);
    }

    static void townWithoutRoute(WaysTold x) {
        town(x);
        x.close(3, 2);
    }

    /** Twenty-four knots, in two rings of twelve with a street between them. */
    static void twentyFour(WaysTold x) {
        for (int knot = 0; knot < 24; knot++) {
            x.knot(knot % 8);
        }
        for (int knot = 0; knot < 24; knot++) {
            int next = knot % 12 == 11 ? knot - 11 : knot + 1;
            x.street(knot, 1, next, 3, knot % 10);
        }
        x.street(0, 2, 12, 0, 9);
        x.say(8, 0);
        x.start(23, 1);
        x.go(1);
    }
}
