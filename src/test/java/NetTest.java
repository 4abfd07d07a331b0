/** Promises 1 to 8: a new object, knot, street, close, sight, look, price, allow. */
public final class NetTest {
    private static final int NONE = WaysTold.NONE;
    private static final int[] ODD = {-1, Integer.MIN_VALUE, Integer.MAX_VALUE};
    private static final Due due = new Due();

    public static void main(String[] args) {
        newObject();
        knot();
        street();
        close();
        closeTakesRoute();
        sight();
        look();
        price();
        allow();
        due.end();
    }

    private static void newObject() {
        WaysTold x = new WaysTold();
        due.same("1: NONE", WaysTold.NONE, -1);
        int[] counts = {0, 0, 0, 0, 0, 511};
        for (int what = 0; what < counts.length; what++) {
            due.same("1: count(" + what + ")", x.count(what), counts[what]);
        }
        due.same("1: routed(0)", x.routed(0), NONE);
        due.same("1: said(0)", x.said(0), NONE);
        due.same("1: walked(0)", x.walked(0), NONE);
        due.same("1: still(0)", x.still(0), NONE);
        due.same("1: tell()", x.tell(), NONE);
        due.same("1: hush()", x.hush(), 0);
    }

    private static void knot() {
        WaysTold x = new WaysTold();
        for (int bad : new int[] {-1, 8, Integer.MIN_VALUE, Integer.MAX_VALUE}) {
            due.same("2: knot(" + bad + ")", x.knot(bad), NONE);
        }
        due.same("2: none was made", x.count(0), 0);
        for (int i = 0; i < 24; i++) {
            due.same("2: knot " + i, x.knot(i % 8), i);
            due.same("2: its sight", x.look(i, 0, 3), i % 8);
        }
        due.same("2: knot 24", x.knot(0), NONE);
        due.same("2: count(0)", x.count(0), 24);
    }

    private static void street() {
        WaysTold x = Nets.knots(24);
        due.yes("3: street(0, 1, 23, 0, 9)", x.street(0, 1, 23, 0, 9));
        due.same("3: there", x.look(0, 1, 0), 23);
        due.same("3: back", x.look(23, 0, 0), 0);
        due.same("3: facing there", x.look(0, 1, 1), 2);
        due.same("3: facing back", x.look(23, 0, 1), 3);
        due.same("3: name", x.look(0, 1, 2), 9);
        due.same("3: name from there", x.look(23, 0, 2), 9);
        due.yes("3: a street to the same knot", x.street(5, 0, 5, 3, 0));
        due.same("3: to itself", x.look(5, 0, 0), 5);
        due.same("3: facing, in by 3", x.look(5, 0, 1), 1);
        due.same("3: facing, in by 0", x.look(5, 3, 1), 2);
        due.yes("3: two streets between the same knots", x.street(0, 2, 23, 2, 1));
        due.same("3: count(1)", x.count(1), 3);
    }

    private static void close() {
        WaysTold x = Nets.line(3);
        due.no("4: no street", x.close(0, 0));
        due.no("4: no knot", x.close(3, 0));
        due.no("4: no exit", x.close(0, 4));
        for (int odd : ODD) {
            due.no("4: odd knot", x.close(odd, 0));
            due.no("4: odd exit", x.close(0, odd));
        }
        due.same("4: all there", x.count(1), 2);
        due.yes("4: by its other end", x.close(1, 3));
        due.same("4: gone here", x.look(1, 3, 0), NONE);
        due.same("4: gone there", x.look(0, 1, 0), NONE);
        due.same("4: no name any more", x.look(0, 1, 2), NONE);
        due.same("4: count(1)", x.count(1), 1);
        due.no("4: twice", x.close(0, 1));
        due.yes("4: a street anew", x.street(0, 1, 2, 1, 4));
        due.same("4: leads elsewhere", x.look(0, 1, 0), 2);
        due.yes("4: a street to the same knot", x.street(1, 0, 1, 2, 0) && x.close(1, 2));
        due.same("4: both ends are gone", x.look(1, 0, 0), NONE);
        due.same("4: count(1) then", x.count(1), 2);
    }

    private static void closeTakesRoute() {
        WaysTold x = Nets.line(4);
        x.start(0, 1);
        x.go(1);
        x.go(1);
        due.yes("4: a street that is not on the route", x.close(2, 1));
        due.routed("4: the route stays", x, 1, 1);
        due.yes("4: a street on the route, by its far end", x.close(2, 3));
        due.same("4: no route", x.routed(0), NONE);
        due.same("4: go", x.go(1), NONE);
        due.same("4: route", x.route(1), NONE);
        x.start(1, 3);
        due.yes("4: a route that goes nowhere", x.close(0, 1));
        due.routed("4: it stays", x);
        x.street(0, 1, 1, 3, 0);
        x.go(3);
        due.yes("4: a street on the route, by its near end", x.close(1, 3));
        due.same("4: no route then", x.routed(1), NONE);
    }

    private static void sight() {
        WaysTold x = new WaysTold();
        x.knot(3);
        due.yes("5: sight(0, 7)", x.sight(0, 7));
        due.same("5: it shows", x.look(0, 0, 3), 7);
        due.yes("5: sight(0, 0)", x.sight(0, 0));
        due.same("5: none shows", x.look(0, 0, 3), 0);
        due.yes("5: the same again", x.sight(0, 0));
        x.sight(0, 5);
        due.no("5: sight 8", x.sight(0, 8));
        due.no("5: knot 1", x.sight(1, 1));
        for (int odd : ODD) {
            due.no("5: odd sight", x.sight(0, odd));
            due.no("5: odd knot", x.sight(odd, 1));
        }
        due.same("5: refused ones change nothing", x.look(0, 0, 3), 5);
    }

    private static void look() {
        WaysTold x = Nets.line(2);
        x.sight(1, 6);
        due.same("6: no street", x.look(0, 0, 0), NONE);
        due.same("6: no street, facing", x.look(0, 0, 1), NONE);
        due.same("6: no street, name", x.look(0, 0, 2), NONE);
        due.same("6: name 0", x.look(0, 1, 2), 0);
        due.same("6: what 4", x.look(0, 1, 4), NONE);
        due.same("6: knot 2", x.look(2, 1, 0), NONE);
        due.same("6: knot 2, sight", x.look(2, 1, 3), NONE);
        due.same("6: exit 4", x.look(0, 4, 0), NONE);
        for (int odd : ODD) {
            due.same("6: odd what", x.look(0, 1, odd), NONE);
            due.same("6: odd knot", x.look(odd, 1, 0), NONE);
            due.same("6: odd knot, sight", x.look(odd, 1, 3), NONE);
            due.same("6: odd exit", x.look(0, odd, 0), NONE);
            due.same("6: odd exit doesn't matter", x.look(1, odd, 3), 6);
        }
    }

    private static void price() {
        WaysTold x = new WaysTold();
        int[] first = {1, 2, 3, 2, 4, 4, 3, 3, 2};
        for (int kind = 0; kind < first.length; kind++) {
            due.same("7: first price of " + kind, x.price(kind, 50 - kind), first[kind]);
        }
        for (int kind = 0; kind < first.length; kind++) {
            due.same("7: price of " + kind, x.price(kind, 0), 50 - kind);
        }
        due.same("7: price 51", x.price(0, 51), NONE);
        due.same("7: kind 9", x.price(9, 1), NONE);
        for (int odd : ODD) {
            due.same("7: odd price", x.price(0, odd), NONE);
            due.same("7: odd kind", x.price(odd, 1), NONE);
        }
        due.same("7: refused ones change nothing", x.price(0, 1), 0);
    }

    private static void allow() {
        WaysTold x = new WaysTold();
        due.same("8: at first", x.allow(0), 511);
        due.same("8: none", x.allow(5), 0);
        due.same("8: 512", x.allow(512), NONE);
        for (int odd : ODD) {
            due.same("8: odd", x.allow(odd), NONE);
        }
        due.same("8: count(5)", x.count(5), 5);
        due.same("8: refused ones change nothing", x.allow(511), 5);
    }
}
