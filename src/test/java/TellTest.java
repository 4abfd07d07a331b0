/** Promises 18 to 20: tell, holds, slip. */
public final class TellTest {
    private static final int NONE = WaysTold.NONE;
    private static final Due due = new Due();

    public static void main(String[] args) {
        tell();
        tellNone();
        tellFewest();
        tellLessKind();
        tellLessNumber();
        tellPrices();
        tellGoesJustTheRoute();
        tellLongest();
        holds();
        slipTurns();
        slipNth();
        slipUntil();
        slipWithoutTelling();
        due.end();
    }

    private static void tell() {
        WaysTold x = Nets.grid(3, 3);
        Nets.say(x, 20, 20);
        Nets.begin(x, 4, 0);
        due.same("18: a route without streets", x.tell(), 0);
        due.said("18: nothing", x);
        Nets.begin(x, 0, 1, 1, 1, 2, 2);
        due.same("18: the price", x.tell(), 5);
        due.said("18: what is said", x, 53, 0);
        due.same("18: the price of what is said", x.count(4), 5);
        due.same("18: the route stays", x.routed(0), 4);
        Nets.begin(x, 0, 0, 2);
        due.same("18: by back", x.tell(), 3);
        due.said("18: back", x, 20);
    }

    private static void tellNone() {
        WaysTold x = Nets.line(3);
        Nets.say(x, 20, 44);
        due.same("18: no route", x.tell(), NONE);
        due.said("18: stays without a route", x, 20, 44);
        Nets.begin(x, 0, 1, 1);
        x.allow(511 - 1);
        due.same("18: none", x.tell(), NONE);
        due.said("18: stays with none", x, 20, 44);
        x.sight(1, 2);
        due.same("18: by a sight", x.tell(), 3);
        due.said("18: until", x, 62);
        x.allow(0);
        due.same("18: nothing is allowed", x.tell(), NONE);
        Nets.begin(x, 0, 1);
        due.same("18: nothing is needed", x.tell(), 0);
    }

    private static void tellFewest() {
        WaysTold x = Nets.line(3);
        Nets.begin(x, 0, 1, 1, 1);
        due.same("18: of equal prices", x.tell(), 2);
        due.said("18: the fewest", x, 80);
        x.price(8, 3);
        due.same("18: the least price", x.tell(), 2);
        due.said("18: before the fewest", x, 0, 0);
        for (int kind = 0; kind < 9; kind++) {
            x.price(kind, 0);
        }
        due.same("18: all for nothing", x.tell(), 0);
        due.said("18: the fewest of all", x, 80);
    }

    private static void tellLessKind() {
        WaysTold x = Nets.knots(3);
        x.street(0, 1, 1, 3, 6);
        x.sight(1, 2);
        Nets.begin(x, 0, 1, 1);
        for (int kind = 0; kind < 9; kind++) {
            x.price(kind, 7);
        }
        int[] allowed = {511, 510, 510 - 64, 510 - 64 - 128};
        int[] said = {0, 62, 76, 80};
        for (int i = 0; i < allowed.length; i++) {
            x.allow(allowed[i]);
            due.same("18: one of equal ones", x.tell(), 7);
            due.said("18: the less kind, bits " + allowed[i], x, said[i]);
        }
        x.allow(511);
        Nets.begin(x, 0, 0, 1);
        x.tell();
        due.said("18: right before nth right and named", x, 10);
        Nets.begin(x, 0, 2, 1);
        x.tell();
        due.said("18: left before nth left and named", x, 30);
    }

    /** From 0 the sight 3 comes too soon, so two sayings are needed, and three pairs do. */
    private static void tellLessNumber() {
        WaysTold x = Nets.line(5);
        int[] sights = {0, 3, 2, 1, 3};
        for (int i = 0; i < sights.length; i++) {
            x.sight(i, sights[i]);
        }
        Nets.begin(x, 0, 1, 1, 1, 1, 1);
        x.allow(64);
        due.same("18: two of them", x.tell(), 6);
        due.said("18: the less number first", x, 61, 63);
    }

    private static void tellPrices() {
        WaysTold x = Nets.grid(3, 3);
        Nets.begin(x, 0, 1, 1, 1, 2, 2);
        x.price(0, 50);
        x.price(5, 50);
        x.price(1, 50);
        x.price(8, 0);
        x.price(7, 0);
        due.same("18: dear ones", x.tell(), 50);
        due.said("18: two of that price, not three", x, 53, 80);
        x.price(1, 1);
        due.same("18: cheaper", x.tell(), 1);
        due.same("18: of the new prices", x.count(4), 1);
    }

    private static void tellGoesJustTheRoute() {
        WaysTold x = Nets.line(4);
        x.sight(2, 5);
        Nets.begin(x, 0, 1, 1);
        x.price(0, 50);
        due.same("18: to the end and until go too far", x.tell(), 50);
        due.said("18: straight", x, 0);
        x.go(1);
        due.same("18: until the sight", x.tell(), 3);
        due.said("18: until", x, 65);
        x.go(1);
        due.same("18: to the end", x.tell(), 2);
        x.go(3);
        due.same("18: and back", x.tell(), 5);
        due.said("18: by back", x, 80, 20);
    }

    private static void tellLongest() {
        WaysTold x = Nets.ring(4);
        x.start(0, 1);
        for (int i = 0; i < 30; i++) {
            x.go(1);
        }
        due.same("18: 30 streets", x.tell(), 30);
        due.same("18: 30 sayings", x.count(2), 30);
        due.same("19: they hold", x.holds(), 1);
        x.sight(2, 1);
        x.price(0, 50);
        due.same("18: round and round", x.tell(), 24);
        due.same("18: 8 sayings", x.count(2), 8);
    }

    private static void holds() {
        WaysTold x = Nets.line(4);
        due.same("19: no route", x.holds(), NONE);
        x.start(0, 1);
        due.same("19: nothing said of nothing", x.holds(), 1);
        x.go(1);
        x.go(1);
        due.same("19: nothing said", x.holds(), 0);
        int[][] rows = {{0}, {0, 0}, {0, 0, 0}, {0, 0, 20}, {0, 0, 10}, {80}, {0, 0, 20, 20}};
        int[] answers = {0, 1, 0, 0, 0, 0, 0};
        for (int i = 0; i < rows.length; i++) {
            Nets.say(x, rows[i]);
            due.same("19: row " + i, x.holds(), answers[i]);
        }
        Nets.say(x, 0, 0);
        x.allow(0);
        due.same("19: kinds are not asked", x.holds(), 1);
        due.said("19: what is said stays", x, 0, 0);
        WaysTold two = Nets.knots(2);
        two.street(0, 1, 1, 3, 0);
        two.street(0, 2, 1, 0, 0);
        Nets.begin(two, 0, 1, 1);
        Nets.say(two, 10);
        due.same("19: the same end by another street", two.holds(), 0);
        WaysTold ring = Nets.ring(3);
        Nets.begin(ring, 0, 1, 1);
        for (int i = 0; i < 60; i++) {
            ring.say(8, 0);
        }
        due.same("19: lost", ring.holds(), 0);
    }

    private static void slipTurns() {
        WaysTold x = Nets.grid(3, 3);
        Nets.begin(x, 7, 0, 0, 1);
        Nets.say(x, 0, 10);
        due.same("20: left for right", x.slip(1), 0);
        due.same("20: what is said stays", x.said(1), 10);
        Nets.say(x, 0, 30);
        due.same("20: right for left ends where the route does", x.slip(1), 1);
        Nets.say(x, 0, 10, 0);
        due.same("20: lost behind the slip", x.slip(1), -4);
        Nets.say(x, 0, 10, 10, 10);
        due.same("20: only at that saying", x.slip(2), -5);
        due.same("20: lost at the slip", lostAtOnce().slip(0), -2);
    }

    private static WaysTold lostAtOnce() {
        WaysTold x = Nets.line(2);
        x.start(0, 0);
        x.say(1, 0);
        return x;
    }

    private static void slipNth() {
        WaysTold x = Nets.grid(2, 6);
        Nets.begin(x, 0, 1, 1, 1, 2);
        Nets.say(x, 53);
        due.same("20: holds", x.holds(), 1);
        due.same("20: the fourth instead", x.slip(0), 0);
        Nets.say(x, 52);
        due.same("20: the third instead", x.slip(0), 1);
        Nets.say(x, 54);
        due.same("20: the fifth instead", x.slip(0), 0);
        Nets.say(x, 54, 20, 10);
        due.same("20: the fifth, and on", x.slip(0), 0);
        x.start(6, 1);
        Nets.say(x, 44);
        due.same("20: the fifth left", x.slip(0), 0);
        x.close(0, 2);
        x.close(1, 2);
        due.same("20: there are but four", x.slip(0), -2);
    }

    private static void slipUntil() {
        WaysTold x = Nets.line(6);
        x.sight(0, 1);
        x.sight(2, 1);
        x.sight(4, 1);
        Nets.begin(x, 0, 1, 1, 1, 1, 1);
        Nets.say(x, 61);
        due.same("20: the first that it comes to is passed", x.slip(0), 1);
        Nets.say(x, 61, 61);
        due.same("20: lost, there is no third", x.slip(1), -3);
        due.same("20: lost at the one behind", x.slip(0), -3);
    }

    private static void slipWithoutTelling() {
        WaysTold x = Nets.grid(3, 3);
        Nets.begin(x, 4, 0, 0);
        Nets.say(x, 10);
        due.same("20: what is said need not hold", x.slip(0), 0);
        x.allow(0);
        due.same("20: nor be allowed", x.slip(0), 0);
        Nets.begin(x, 4, 0, 3);
        due.same("20: the slip leads there", x.slip(0), 1);
    }
}
