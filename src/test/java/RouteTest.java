/** Promises 14 to 17: start, go, route, routed. */
public final class RouteTest {
    private static final int NONE = WaysTold.NONE;
    private static final int[] ODD = {-1, Integer.MIN_VALUE, Integer.MAX_VALUE};
    private static final Due due = new Due();

    public static void main(String[] args) {
        start();
        go();
        route();
        routeTiesAndBends();
        routed();
        due.end();
    }

    private static void start() {
        WaysTold x = Nets.line(2);
        due.no("14: knot 2", x.start(2, 0));
        due.no("14: facing 4", x.start(0, 4));
        for (int odd : ODD) {
            due.no("14: odd knot", x.start(odd, 0));
            due.no("14: odd facing", x.start(0, odd));
        }
        due.same("14: no route", x.routed(0), NONE);
        due.yes("14: start(1, 3)", x.start(1, 3));
        due.routed("14: no streets", x);
        due.same("14: its knot", x.routed(1), 1);
        due.same("14: its facing", x.routed(2), 3);
        x.go(3);
        due.no("14: refused", x.start(1, 4));
        due.routed("14: it stays", x, 3);
        due.yes("14: anew", x.start(0, 2));
        due.routed("14: no streets any more", x);
        due.same("14: its new facing", x.routed(2), 2);
    }

    private static void go() {
        WaysTold x = Nets.line(3);
        due.same("15: no route", x.go(1), NONE);
        x.start(0, 0);
        due.same("15: no street", x.go(0), NONE);
        due.same("15: exit 4", x.go(4), NONE);
        for (int odd : ODD) {
            due.same("15: odd exit", x.go(odd), NONE);
        }
        due.routed("15: refused ones change nothing", x);
        due.same("15: first", x.go(1), 1);
        due.same("15: second", x.go(1), 2);
        due.same("15: no street any more", x.go(1), NONE);
        due.same("15: back", x.go(3), 3);
        due.routed("15: all of it", x, 1, 1, 3);
        due.same("15: where", x.routed(1), 1);
    }

    private static void route() {
        WaysTold x = Nets.grid(3, 3);
        x.start(0, 3);
        due.same("16: route(8)", x.route(8), 4);
        due.routed("16: the less exit first", x, 1, 1, 2, 2);
        due.same("16: route(3), from the beginning", x.route(3), 1);
        due.routed("16: one street", x, 2);
        due.same("16: route(0), where it began", x.route(0), 0);
        due.routed("16: no streets", x);
        due.same("16: facing as told", x.routed(2), 3);
        x.start(8, 0);
        due.same("16: route(0)", x.route(0), 4);
        due.routed("16: north first", x, 0, 0, 3, 3);
    }

    private static void routeTiesAndBends() {
        WaysTold x = Nets.knots(4);
        x.street(0, 3, 1, 0, 0);
        x.street(0, 2, 1, 2, 0);
        x.street(1, 3, 2, 1, 0);
        x.street(1, 1, 2, 0, 0);
        x.street(0, 0, 0, 1, 0);
        x.start(0, 0);
        due.same("16: bent streets", x.route(2), 2);
        due.routed("16: less exits of both pairs", x, 2, 1);
        due.same("16: facing, in by 0", x.routed(2), 2);
        x.street(0, 1, 2, 2, 0);
        due.same("16: an exit that has a street", x.route(2), 2);
        x.close(0, 0);
        x.street(2, 2, 0, 1, 0);
        due.same("16: a shorter one", x.route(2), 1);
        WaysTold far = Nets.line(24);
        far.start(0, 0);
        due.same("16: the longest", far.route(23), 23);
        due.same("16: its end", far.routed(1), 23);
    }

    private static void routed() {
        WaysTold x = Nets.knots(2);
        x.street(0, 1, 1, 0, 0);
        due.same("17: no route", x.routed(0), NONE);
        due.same("17: no route, knot", x.routed(1), NONE);
        due.same("17: no route, exit", x.routed(10), NONE);
        x.start(0, 0);
        x.go(1);
        due.routed("17: exits", x, 1);
        due.same("17: knot", x.routed(1), 1);
        due.same("17: facing there", x.routed(2), 2);
        for (int what = 3; what < 10; what++) {
            due.same("17: what " + what, x.routed(what), NONE);
        }
        for (int odd : ODD) {
            due.same("17: odd what", x.routed(odd), NONE);
        }
    }
}
