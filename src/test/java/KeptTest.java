/** Promises 22 to 24: keep, still, count. */
public final class KeptTest {
    private static final int NONE = WaysTold.NONE;
    private static final int[] ODD = {-1, Integer.MIN_VALUE, Integer.MAX_VALUE};
    private static final Due due = new Due();

    public static void main(String[] args) {
        keep();
        still();
        stillAsTheNetChanges();
        count();
        due.end();
    }

    private static void keep() {
        WaysTold x = Nets.line(3);
        due.same("22: no route", x.keep(), NONE);
        due.same("22: nothing is kept", x.count(3), 0);
        x.start(0, 1);
        for (int i = 0; i < 8; i++) {
            due.same("22: kept " + i, x.keep(), i);
        }
        due.same("22: 8", x.keep(), NONE);
        due.same("22: 8 are kept", x.count(3), 8);
        due.same("23: the last one", x.still(7), 1);
        due.same("23: none behind it", x.still(8), NONE);
        due.routed("22: the route stays", x);
    }

    private static void still() {
        WaysTold x = Nets.line(4);
        due.same("23: none kept", x.still(0), NONE);
        x.start(0, 1);
        x.go(1);
        Nets.say(x, 0);
        x.keep();
        Nets.say(x, 20);
        x.keep();
        x.go(1);
        Nets.say(x, 0, 0);
        x.keep();
        x.hush();
        x.start(2, 2);
        int[] answers = {1, 0, 1, NONE};
        for (int i = 0; i < answers.length; i++) {
            due.same("23: still(" + i + ")", x.still(i), answers[i]);
        }
        for (int odd : ODD) {
            due.same("23: odd", x.still(odd), NONE);
        }
        x.allow(0);
        due.same("23: kinds are not asked, as with holds()", x.still(0), 1);
        due.said("23: what is said stays", x);
        due.routed("23: the route stays", x);
    }

    private static void stillAsTheNetChanges() {
        WaysTold x = Nets.grid(2, 4);
        x.sight(2, 6);
        x.start(0, 1);
        x.go(1);
        x.go(1);
        Nets.say(x, 66);
        x.keep();
        x.go(2);
        Nets.say(x, 53);
        x.keep();
        due.same("23: both", x.still(0) + x.still(1), 2);
        x.sight(1, 6);
        due.same("23: the sight comes sooner", x.still(0), 0);
        x.sight(1, 0);
        due.same("23: it is as it was", x.still(0), 1);
        x.close(1, 2);
        due.same("23: one street less to the right", x.still(1), 0);
        x.street(1, 2, 4, 3, 0);
        due.same("23: a street there again", x.still(1), 1);
        x.close(1, 1);
        due.same("23: it can't be gone", x.still(0), 0);
        due.same("23: nor the other", x.still(1), 0);
        due.same("23: the route is gone", x.routed(0), NONE);
        due.same("23: both are kept", x.count(3), 2);
        x.street(1, 1, 2, 3, 9);
        due.same("23: it can be gone again", x.still(0), 1);
        x.start(0, 0);
        x.hush();
        x.keep();
        due.same("23: nothing said of nothing", x.still(2), 1);
    }

    private static void count() {
        WaysTold x = Nets.grid(2, 3);
        due.same("24: knots", x.count(0), 6);
        due.same("24: streets", x.count(1), 7);
        Nets.say(x, 0, 10, 20, 30, 41, 51, 61, 71, 80);
        due.same("24: sayings", x.count(2), 9);
        due.same("24: their price", x.count(4), 24);
        x.price(6, 50);
        due.same("24: their price now", x.count(4), 71);
        x.hush();
        due.same("24: nothing costs nothing", x.count(4), 0);
        due.same("24: none kept", x.count(3), 0);
        x.start(0, 0);
        x.keep();
        due.same("24: one kept", x.count(3), 1);
        x.allow(257);
        due.same("24: allowed", x.count(5), 257);
        due.same("24: what 6", x.count(6), NONE);
        for (int odd : ODD) {
            due.same("24: odd", x.count(odd), NONE);
        }
        for (int i = 0; i < 60; i++) {
            x.say(6, 1);
        }
        due.same("24: the dearest", x.count(4), 3000);
    }
}
