/** The boundaries that promises 1 to 8 name: a new object, and the net. */
public final class NetEdgesTest {
    private static final int NONE = WaysTold.NONE;
    private static final Due due = new Due();
    private static final Story nothing = new Story(due, x -> { });
    private static final Story town = new Story(due, Edges::town);
    private static final Story full = new Story(due, Edges::twentyFour);

    public static void main(String[] args) {
        newHasNoKnots();
        newHasNoRoute();
        newHasNothingSaidOrKept();
        newSharesNothing();
        knotRefusesAnotherSight();
        knotRefusesThe25th();
        streetRefusesNoSuchKnots();
        streetRefusesNoSuchExits();
        streetRefusesNoSuchNames();
        streetRefusesExitsThatHaveOne();
        streetRefusesBothAlike();
        streetsAtAllExits();
        closeWithoutStreet();
        closeWithoutSuchEnd();
        closeOfLastStreet();
        closeTakesTheRouteAlongIt();
        closeLeavesOtherRoutes();
        closeLeavesAllElse();
        sightRefusesOthers();
        sightOfAllKinds();
        lookAtNoSuchKnot();
        lookAtNoSuchExit();
        lookAtNoStreet();
        lookForAnotherWhat();
        lookAtSightByAnyExit();
        priceRefusesOthers();
        priceLeastAndMost();
        allowRefusesOthers();
        allowLeastAndMost();
        due.end();
    }

    // ---- 1: "No KNOTS, ROUTE, nothing SAID; nothing kept."

    private static void newHasNoKnots() {
        due.same("1: no knots", new WaysTold().count(0), 0);
        due.same("1: no streets", new WaysTold().count(1), 0);
        nothing.no("1: street", x -> x.street(0, 0, 0, 1, 0));
        nothing.no("1: close", x -> x.close(0, 0));
        nothing.no("1: sight", x -> x.sight(0, 1));
        for (int what = 0; what <= 3; what++) {
            int w = what;
            nothing.none("1: look for " + what, x -> x.look(0, 0, w));
        }
        nothing.none("1: walk", x -> x.walk(0, 0));
        nothing.no("1: start", x -> x.start(0, 0));
        nothing.none("1: best", x -> x.best(0, 0, 0));
        WaysTold refusing = new WaysTold();
        refusing.knot(8);
        refusing.walk(0, 0);
        due.same("1: the first knot is 0", refusing.knot(0), 0);
    }

    private static void newHasNoRoute() {
        for (int what = 0; what <= 10; what++) {
            int w = what;
            nothing.none("1: routed(" + what + ")", x -> x.routed(w));
            nothing.none("1: walked(" + what + ")", x -> x.walked(w));
        }
        Story knotsOnly = nothing.and(x -> x.knot(0)).and(x -> x.street(0, 0, 0, 1, 0));
        knotsOnly.none("1: go", x -> x.go(0));
        knotsOnly.none("1: route", x -> x.route(0));
        knotsOnly.none("1: tell", WaysTold::tell);
        knotsOnly.none("1: holds", WaysTold::holds);
        knotsOnly.none("1: keep", WaysTold::keep);
        knotsOnly.and(x -> x.say(1, 0)).none("1: slip", x -> x.slip(0));
    }

    private static void newHasNothingSaidOrKept() {
        WaysTold x = new WaysTold();
        due.said("1: nothing", x);
        due.same("1: price of nothing", x.count(4), 0);
        nothing.leaves("1: hush", WaysTold::hush, 0);
        due.same("1: nothing kept", x.count(3), 0);
        nothing.none("1: still", y -> y.still(0));
        due.same("1: all nine are allowed", x.count(5), 511);
    }

    private static void newSharesNothing() {
        WaysTold other = town.told();
        nothing.none("1: one object does not see another's route", WaysTold::tell);
        due.same("1: nor its knots", new WaysTold().count(0), 0);
        due.same("1: the other one has them", other.count(0), 10);
    }

    // ---- 2: "Refused: another SIGHT, 24."

    private static void knotRefusesAnotherSight() {
        for (int sight : Edges.beyond(0, 7)) {
            nothing.none("2: the first knot, sight " + sight, x -> x.knot(sight));
            town.none("2: a knot more, sight " + sight, x -> x.knot(sight));
        }
        WaysTold x = new WaysTold();
        due.same("2: the least sight", x.knot(0), 0);
        due.same("2: the most", x.knot(7), 1);
        due.same("2: they show", x.look(0, 0, 3) * 10 + x.look(1, 0, 3), 7);
        x.knot(8);
        due.same("2: a refused one takes no number", x.knot(1), 2);
    }

    private static void knotRefusesThe25th() {
        WaysTold x = new WaysTold();
        for (int knot = 0; knot < 24; knot++) {
            due.same("2: knot " + knot, x.knot(knot % 8), knot);
        }
        due.same("2: the 25th", x.knot(0), NONE);
        due.same("2: there are 24", x.count(0), 24);
        due.same("2: the last one's sight", x.look(23, 0, 3), 7);
        due.same("2: there is no knot 24", x.look(24, 0, 3), NONE);
        for (int sight = 0; sight <= 7; sight++) {
            int s = sight;
            full.none("2: one more, sight " + sight, y -> y.knot(s));
        }
        full.none("2: one more, no such sight", y -> y.knot(8));
    }

    // ---- 3: "Refused: no such KNOTS, EXITS, NAME; an EXIT that has one, both alike."

    private static void streetRefusesNoSuchKnots() {
        for (int knot : Edges.beyond(0, 9)) {
            town.no("3: from knot " + knot, x -> x.street(knot, 2, 9, 3, 0));
            town.no("3: to knot " + knot, x -> x.street(9, 3, knot, 2, 0));
            town.no("3: both, " + knot, x -> x.street(knot, 2, knot, 3, 0));
        }
        full.no("3: from knot 24", x -> x.street(24, 0, 23, 0, 0));
        full.no("3: to knot 24", x -> x.street(23, 0, 24, 0, 0));
        due.yes("3: knot 23", full.told().street(23, 0, 23, 2, 0));
    }

    private static void streetRefusesNoSuchExits() {
        for (int exit : Edges.beyond(0, 3)) {
            town.no("3: from exit " + exit, x -> x.street(8, exit, 9, 3, 0));
            town.no("3: to exit " + exit, x -> x.street(9, 3, 8, exit, 0));
            town.no("3: both, " + exit, x -> x.street(8, exit, 9, exit, 0));
        }
    }

    private static void streetRefusesNoSuchNames() {
        for (int name : Edges.beyond(0, 9)) {
            town.no("3: name " + name, x -> x.street(8, 2, 9, 3, name));
        }
        WaysTold x = town.told();
        due.yes("3: the least name", x.street(8, 1, 9, 3, 0));
        due.yes("3: the most", x.street(8, 2, 9, 2, 9));
        due.same("3: none", x.look(8, 1, 2), 0);
        due.same("3: nine", x.look(8, 2, 2), 9);
        due.same("3: nine from there", x.look(9, 2, 2), 9);
    }

    private static void streetRefusesExitsThatHaveOne() {
        town.no("3: the first has one", x -> x.street(0, 1, 9, 3, 0));
        town.no("3: the first is another's far end", x -> x.street(1, 3, 9, 3, 0));
        town.no("3: the second has one", x -> x.street(9, 3, 0, 1, 0));
        town.no("3: the second is another's far end", x -> x.street(9, 3, 1, 3, 0));
        town.no("3: the same street again", x -> x.street(0, 1, 1, 3, 1));
        town.no("3: the same street, from there", x -> x.street(1, 3, 0, 1, 1));
        town.no("3: both have one", x -> x.street(0, 2, 1, 2, 0));
        town.no("3: a street to itself again", x -> x.street(9, 1, 9, 0, 0));
        town.no("3: an exit alike that has one", x -> x.street(0, 1, 0, 1, 0));
        WaysTold x = town.told();
        x.close(0, 1);
        due.yes("3: an exit that had one", x.street(0, 1, 9, 3, 0));
        due.yes("3: the other one that had it", x.street(1, 3, 9, 2, 0));
    }

    private static void streetRefusesBothAlike() {
        for (int exit = 0; exit <= 3; exit++) {
            int e = exit;
            Story one = nothing.and(x -> x.knot(3)).and(x -> x.knot(0));
            one.no("3: both alike, " + exit, x -> x.street(0, e, 0, e, 0));
            due.yes("3: the exit alone alike", one.told().street(0, e, 1, e, 0));
        }
        for (int one = 0; one <= 3; one++) {
            for (int two = 0; two <= 3; two++) {
                WaysTold x = Nets.knots(1);
                due.same("3: one knot, exits " + one + " and " + two,
                    x.street(0, one, 0, two, 0) ? 1 : 0, one == two ? 0 : 1);
            }
        }
    }

    private static void streetsAtAllExits() {
        WaysTold x = Nets.knots(24);
        for (int knot = 0; knot < 24; knot += 2) {
            for (int exit = 0; exit <= 3; exit++) {
                due.yes("3: all exits", x.street(knot, exit, knot + 1, 3 - exit, 0));
            }
        }
        due.same("3: as many as there can be", x.count(1), 48);
        due.no("3: no exit is left", x.street(0, 0, 23, 3, 0));
        due.same("3: as many then", x.count(1), 48);
    }

    // ---- 4: "false if there is none. (A ROUTE along it is gone, too: no ROUTE then.)"

    private static void closeWithoutStreet() {
        town.no("4: no street", x -> x.close(0, 0));
        town.no("4: none at the route's knot", x -> x.close(3, 3));
        town.no("4: none at a knot apart", x -> x.close(9, 2));
        Story gone = town.and(x -> x.close(0, 1));
        gone.no("4: gone already", x -> x.close(0, 1));
        gone.no("4: gone already, from there", x -> x.close(1, 3));
        nothing.and(x -> x.knot(0)).no("4: no streets at all", x -> x.close(0, 0));
    }

    private static void closeWithoutSuchEnd() {
        for (int knot : Edges.beyond(0, 9)) {
            town.no("4: knot " + knot, x -> x.close(knot, 1));
        }
        for (int exit : Edges.beyond(0, 3)) {
            town.no("4: exit " + exit, x -> x.close(4, exit));
        }
        full.no("4: knot 24", x -> x.close(24, 0));
    }

    private static void closeOfLastStreet() {
        WaysTold x = Nets.line(2);
        due.yes("4: the last street", x.close(1, 3));
        due.same("4: there is none", x.count(1), 0);
        due.no("4: none to close", x.close(1, 3));
        due.same("4: not less than none", x.count(1), 0);
        due.same("4: the knots stay", x.count(0), 2);
    }

    /** The route goes by four streets, one of them to the same knot; each has two ends. */
    private static void aroundTheTown(WaysTold x) {
        x.start(8, 0);
        x.go(0);
        x.go(3);
        x.close(4, 0);
        x.street(4, 0, 9, 3, 0);
        x.go(0);
        x.go(0);
    }

    private static void closeTakesTheRouteAlongIt() {
        Story route = town.and(NetEdgesTest::aroundTheTown);
        due.routed("4: the route", route.told(), 0, 3, 0, 0);
        int[][] ends = {{8, 0}, {5, 2}, {5, 3}, {4, 1}, {4, 0}, {9, 3}, {9, 0}, {9, 1}};
        for (int[] end : ends) {
            WaysTold x = route.told();
            String call = "4: close(" + end[0] + ", " + end[1] + ")";
            due.yes(call, x.close(end[0], end[1]));
            due.same(call + ", routed(0)", x.routed(0), NONE);
            due.same(call + ", routed(10)", x.routed(10), NONE);
            due.same(call + ", go", x.go(0), NONE);
            due.same(call + ", route", x.route(8), NONE);
            due.same(call + ", tell", x.tell(), NONE);
            due.same(call + ", holds", x.holds(), NONE);
            due.same(call + ", slip", x.slip(2), NONE);
            due.same(call + ", keep", x.keep(), NONE);
            due.yes(call + ", start", x.start(8, 0));
            due.routed(call + ", a route anew", x);
        }
    }

    private static void closeLeavesOtherRoutes() {
        Story route = town.and(NetEdgesTest::aroundTheTown);
        int[][] ends = {{8, 3}, {5, 0}, {4, 3}, {4, 2}, {0, 1}, {6, 1}};
        for (int[] end : ends) {
            WaysTold x = route.told();
            due.yes("4: a street beside the route", x.close(end[0], end[1]));
            due.routed("4: the route stays", x, 0, 3, 0, 0);
        }
        WaysTold x = town.told();
        x.start(4, 1);
        for (int exit = 0; exit <= 3; exit++) {
            due.yes("4: all streets where a route of none is", x.close(4, exit));
        }
        due.routed("4: it stays", x);
        due.same("4: and where it is", x.routed(1), 4);
        due.same("4: there is no street to go by", x.go(1), NONE);
        WaysTold two = Nets.knots(2);
        two.street(0, 1, 1, 3, 0);
        two.street(0, 2, 1, 0, 0);
        two.start(0, 1);
        two.go(1);
        due.yes("4: another street between the same knots", two.close(0, 2));
        due.routed("4: the route by this one stays", two, 1);
    }

    private static void closeLeavesAllElse() {
        WaysTold x = town.told();
        WaysTold as = town.told();
        due.yes("4: a street on the route", x.close(3, 2));
        for (int i = 0; i <= 4; i++) {
            due.same("4: what is said stays", x.said(i), as.said(i));
        }
        for (int what = 0; what <= 13; what++) {
            due.same("4: what was walked stays", x.walked(what), as.walked(what));
        }
        due.same("4: what is kept stays", x.count(3), 2);
        due.same("4: and holds", x.still(0), as.still(0));
        due.same("4: the knots stay", x.count(0), 10);
        due.same("4: one street less", x.count(1), as.count(1) - 1);
    }

    // ---- 5: "Refused: others."

    private static void sightRefusesOthers() {
        for (int sight : Edges.beyond(0, 7)) {
            town.no("5: sight " + sight, x -> x.sight(4, sight));
        }
        for (int knot : Edges.beyond(0, 9)) {
            town.no("5: knot " + knot, x -> x.sight(knot, 5));
        }
        full.no("5: knot 24", x -> x.sight(24, 5));
    }

    private static void sightOfAllKinds() {
        WaysTold x = full.told();
        for (int sight = 7; sight >= 0; sight--) {
            due.yes("5: sight " + sight, x.sight(23, sight));
            due.same("5: it shows", x.look(23, 0, 3), sight);
            due.yes("5: the same again", x.sight(23, sight));
            due.same("5: the knot before stays", x.look(22, 0, 3), 6);
        }
        due.yes("5: the first knot", x.sight(0, 7));
        due.same("5: the next one stays", x.look(1, 0, 3), 1);
    }

    // ---- 6: "NONE: no such KNOT, EXIT, no STREET, another what."

    private static void lookAtNoSuchKnot() {
        for (int what = 0; what <= 3; what++) {
            int w = what;
            for (int knot : Edges.beyond(0, 9)) {
                town.none("6: look(" + knot + ", 1, " + what + ")", x -> x.look(knot, 1, w));
            }
            full.none("6: look(24, 0, " + what + ")", x -> x.look(24, 0, w));
        }
    }

    private static void lookAtNoSuchExit() {
        for (int what = 0; what <= 2; what++) {
            int w = what;
            for (int exit : Edges.beyond(0, 3)) {
                town.none("6: look(4, " + exit + ", " + what + ")", x -> x.look(4, exit, w));
            }
        }
    }

    private static void lookAtNoStreet() {
        for (int what = 0; what <= 2; what++) {
            int w = what;
            town.none("6: no street, " + what, x -> x.look(0, 0, w));
            town.and(x -> x.close(9, 1)).none("6: gone, " + what, x -> x.look(9, 0, w));
        }
        due.same("6: a name of none is no NONE", Nets.line(2).look(0, 1, 2), 0);
    }

    private static void lookForAnotherWhat() {
        for (int what : Edges.beyond(0, 3)) {
            town.none("6: what " + what, x -> x.look(4, 1, what));
            town.none("6: no street, what " + what, x -> x.look(0, 0, what));
        }
    }

    /** "of the KNOT itself its SIGHT (3; EXIT doesn't matter)" */
    private static void lookAtSightByAnyExit() {
        town.leaves("6: an exit with a street", x -> x.look(5, 0, 3), 5);
        town.leaves("6: an exit without one", x -> x.look(5, 1, 3), 5);
        for (int exit : Edges.beyond(0, 3)) {
            town.leaves("6: exit " + exit, x -> x.look(5, exit, 3), 5);
            town.leaves("6: a knot without a sight, exit " + exit, x -> x.look(8, exit, 3), 0);
        }
    }

    // ---- 7: "Refused: others." PRICES are 0 .. 50.

    private static void priceRefusesOthers() {
        for (int v : Edges.beyond(0, 50)) {
            town.none("7: price " + v, x -> x.price(3, v));
        }
        for (int kind : Edges.beyond(0, 8)) {
            town.none("7: kind " + kind, x -> x.price(kind, 5));
        }
    }

    private static void priceLeastAndMost() {
        int[] first = {1, 2, 3, 2, 4, 4, 3, 3, 2};
        for (int kind = 0; kind <= 8; kind++) {
            WaysTold x = new WaysTold();
            due.same("7: at first, kind " + kind, x.price(kind, 50), first[kind]);
            due.same("7: the most", x.price(kind, 0), 50);
            due.same("7: the least", x.price(kind, 1), 0);
            due.same("7: the same again", x.price(kind, 1), 1);
            for (int other = 0; other <= 8; other++) {
                int was = other == kind ? 1 : first[other];
                due.same("7: of kind " + kind + " alone", x.price(other, 9), was);
            }
        }
    }

    // ---- 8: "ALLOWED KINDS become bits (0 .. 511) .. Refused: others."

    private static void allowRefusesOthers() {
        for (int bits : Edges.beyond(0, 511)) {
            town.none("8: bits " + bits, x -> x.allow(bits));
        }
    }

    private static void allowLeastAndMost() {
        WaysTold x = new WaysTold();
        due.same("8: at first", x.allow(0), 511);
        due.same("8: the least", x.count(5), 0);
        due.same("8: the least was", x.allow(511), 0);
        due.same("8: the most", x.count(5), 511);
        due.same("8: the most was", x.allow(256), 511);
        x.allow(512);
        due.same("8: the last kind alone", x.allow(1), 256);
        due.same("8: the first kind alone", x.allow(1), 1);
    }
}
