/** No call throws or fails to end, for any arguments in any state, the 512th call long past. */
public final class AnyArgumentsTest {
    private static final int[] NUMBERS = {
        Integer.MIN_VALUE, Integer.MIN_VALUE + 9, -(1 << 30), -11, -2, -1, 0, 1, 3, 4, 7, 8, 9, 10,
        23, 24, 39, 40, 60, 209, 210, 511, 512, 65536, 1 << 30, Integer.MAX_VALUE
    };
    private static final Due due = new Due();

    public static void main(String[] args) {
        all("a new object", new WaysTold());
        WaysTold town = new WaysTold();
        Edges.town(town);
        all("the town", town);
        WaysTold full = new WaysTold();
        Edges.twentyFour(full);
        all("24 knots", full);
        all("30 streets", Nets.longRing());
        due.end();
    }

    private static void all(String state, WaysTold x) {
        for (int a : NUMBERS) {
            byOne(x, a);
            for (int b : NUMBERS) {
                byTwo(x, a, b);
                for (int c : NUMBERS) {
                    x.look(a, b, c);
                    x.best(a, b, c);
                }
            }
        }
        for (int a : NUMBERS) {
            for (int b : NUMBERS) {
                x.street(a, b, b, a, 0);
                x.street(a, 0, b, 3, b);
                x.street(0, a, 3, b, a);
            }
        }
        for (int a : NUMBERS) {
            byOne(x, a);
        }
        int knots = x.count(0);
        due.yes(state + ": no more than 24 knots", knots >= 0 && knots <= 24);
        due.yes(state + ": no more than 60 are said", x.count(2) <= 60);
        due.yes(state + ": no more than 8 are kept", x.count(3) <= 8);
        due.yes(state + ": no more than 30 streets routed", x.routed(0) <= 30);
    }

    private static void byOne(WaysTold x, int a) {
        x.start(0, 1);
        for (int exit : NUMBERS) {
            x.go(exit);
        }
        x.knot(a);
        x.allow(a);
        x.said(a);
        x.walked(a);
        x.go(a);
        x.routed(a);
        x.slip(a);
        x.tell();
        x.holds();
        x.route(a);
        x.keep();
        x.still(a);
        x.count(a);
        x.allow(511);
    }

    private static void byTwo(WaysTold x, int a, int b) {
        x.price(a, b);
        x.say(a, b);
        x.walk(a, b);
        x.start(a, b);
        x.sight(a, b);
        x.close(a, b);
        if (x.count(2) == 60) {
            x.hush();
        }
    }
}
