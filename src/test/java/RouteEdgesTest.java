/** The boundaries that promises 14 to 17 name: how a route begins and goes on. */
public final class RouteEdgesTest {
    private static final int NONE = WaysTold.NONE;
    private static final int MOST_ROUTED = 30;
    private static final Due due = new Due();
    private static final Story town = new Story(due, Edges::town);
    private static final Story full = new Story(due, Edges::twentyFour);
    private static final Story noRoute = new Story(due, Edges::townWithoutRoute);
    private static final Story thirty = new Story(due, RouteEdgesTest::townWithThirty);

    public static void main(String[] args) {
        startRefusesNoSuchKnot();
        startRefusesNoSuchFacing();
        startAtFirstAndLast();
        startEndsTheRouteBefore();
        goWithoutRoute();
        goByNoStreet();
        goByNoSuchExit();
        goThirty();
        goAfterStartAnew();
        routeWithoutRoute();
        routeToNoSuchKnot();
        routeWhereNoneLeads();
        routeToWhereItBegan();
        routeFromWhereItBegan();
        routeOfEqualOnes();
        routeOfMostStreets();
        routeOfThirtyBecomesShort();
        routedWithoutRoute();
        routedNoneSuch();
        routedOfNoStreets();
        routedOfThirty();
        due.end();
    }

    /** From 4 round and round a square, 30 streets: the last one leads to 2. */
    private static void townWithThirty(WaysTold x) {
        Edges.town(x);
        int[] square = {0, 1, 2, 3};
        x.start(4, 3);
        for (int i = 0; i < MOST_ROUTED; i++) {
            x.go(square[i % 4]);
        }
    }

    // ---- 14: "Refused: none such."

    private static void startRefusesNoSuchKnot() {
        for (int knot : Edges.beyond(0, 9)) {
            town.no("14: knot " + knot, x -> x.start(knot, 0));
            noRoute.no("14: no route, knot " + knot, x -> x.start(knot, 0));
        }
        full.no("14: knot 24", x -> x.start(24, 0));
    }

    private static void startRefusesNoSuchFacing() {
        for (int facing : Edges.beyond(0, 3)) {
            town.no("14: facing " + facing, x -> x.start(0, facing));
            noRoute.no("14: no route, facing " + facing, x -> x.start(0, facing));
        }
    }

    private static void startAtFirstAndLast() {
        for (int knot : new int[] {0, 23}) {
            for (int facing = 0; facing <= 3; facing++) {
                WaysTold x = full.told();
                due.yes("14: start(" + knot + ", " + facing + ")", x.start(knot, facing));
                due.routed("14: no streets", x);
                due.same("14: its knot", x.routed(1), knot);
                due.same("14: its facing", x.routed(2), facing);
            }
        }
        WaysTold apart = Nets.knots(1);
        due.yes("14: where no street is", apart.start(0, 0));
    }

    private static void startEndsTheRouteBefore() {
        WaysTold x = thirty.told();
        due.yes("14: anew", x.start(0, 2));
        due.routed("14: no streets any more", x);
        due.yes("14: the street that it went along", x.close(4, 0));
        due.routed("14: takes nothing now", x);
        due.said("14: what is said stays", x, 51, 61, 10, 30);
    }

    // ---- 15: "Refused: no ROUTE, no STREET there, 30."

    private static void goWithoutRoute() {
        for (int exit = 0; exit <= 3; exit++) {
            int e = exit;
            noRoute.none("15: no route, exit " + exit, x -> x.go(e));
        }
    }

    private static void goByNoStreet() {
        due.same("15: a street there", town.told().go(0), 3);
        town.none("15: none at the last knot", x -> x.go(3));
        town.none("15: one at the first knot, none at the last", x -> x.go(2));
        Story gone = town.and(x -> x.close(6, 1));
        gone.none("15: it is gone", x -> x.go(1));
        Story begun = town.and(x -> x.start(0, 1));
        begun.none("15: none where it begins", x -> x.go(0));
    }

    private static void goByNoSuchExit() {
        for (int exit : Edges.beyond(0, 3)) {
            town.none("15: exit " + exit, x -> x.go(exit));
            full.none("15: exit " + exit + ", 24 knots", x -> x.go(exit));
        }
    }

    private static void goThirty() {
        WaysTold x = Nets.ring(4);
        x.start(0, 1);
        for (int i = 1; i <= MOST_ROUTED; i++) {
            due.same("15: street " + i, x.go(1), i);
        }
        due.same("15: street 31", x.go(1), NONE);
        due.same("15: its last knot", x.routed(1), 2);
        for (int exit = -1; exit <= 4; exit++) {
            int e = exit;
            thirty.none("15: one more, exit " + exit, y -> y.go(e));
        }
    }

    private static void goAfterStartAnew() {
        WaysTold x = thirty.told();
        x.start(0, 1);
        due.same("15: there is room again", x.go(1), 1);
        due.routed("15: one street", x, 1);
    }

    // ---- 16: "Refused: no ROUTE, KNOT; none. (To where it began: 0.)"

    private static void routeWithoutRoute() {
        noRoute.none("16: no route", x -> x.route(5));
        noRoute.none("16: no route, to where one began", x -> x.route(4));
        noRoute.none("16: no route, no knot", x -> x.route(10));
    }

    private static void routeToNoSuchKnot() {
        for (int knot : Edges.beyond(0, 9)) {
            town.none("16: knot " + knot, x -> x.route(knot));
        }
        full.none("16: knot 24", x -> x.route(24));
    }

    private static void routeWhereNoneLeads() {
        town.none("16: a knot apart", x -> x.route(9));
        Story apart = town.and(x -> x.start(9, 0)).and(x -> x.go(0));
        apart.none("16: from a knot apart", x -> x.route(0));
        Story cut = full.and(x -> x.close(0, 2));
        cut.none("16: the only street is gone", x -> x.route(0));
    }

    private static void routeToWhereItBegan() {
        WaysTold x = town.told();
        due.same("16: to where it began", x.route(4), 0);
        due.routed("16: no streets", x);
        due.same("16: its knot", x.routed(1), 4);
        due.same("16: facing as told", x.routed(2), 3);
        WaysTold apart = Nets.knots(1);
        apart.start(0, 2);
        due.same("16: where no street is", apart.route(0), 0);
        WaysTold loop = Nets.knots(1);
        loop.street(0, 0, 0, 1, 0);
        loop.start(0, 2);
        due.same("16: not by a street to itself", loop.route(0), 0);
        due.same("16: facing as told, not as gone", loop.routed(2), 2);
    }

    private static void routeFromWhereItBegan() {
        WaysTold x = town.told();
        due.same("16: its last knot is 6", x.routed(1), 6);
        due.same("16: from where it began", x.route(2), 2);
        due.routed("16: not from its last knot", x, 0, 1);
        due.same("16: to its last knot", x.route(6), 2);
        due.routed("16: the less exit first", x, 2, 3);
        due.same("16: to where it began", x.route(4), 0);
        due.same("16: facing as told", x.routed(2), 3);
        due.said("16: what is said stays", x, 51, 61, 10, 30);
    }

    /** "of equal ones the one with the less EXIT first" */
    private static void routeOfEqualOnes() {
        WaysTold x = Nets.grid(3, 3);
        int[][] ways = {{0, 8, 1, 1, 2, 2}, {8, 0, 0, 0, 3, 3}, {2, 6, 2, 2, 3, 3}, {6, 2, 0, 0, 1, 1}};
        for (int[] way : ways) {
            x.start(way[0], 0);
            due.same("16: from " + way[0] + " to " + way[1], x.route(way[1]), 4);
            due.routed("16: the less exit first", x, way[2], way[3], way[4], way[5]);
        }
        WaysTold two = Nets.knots(2);
        two.street(0, 3, 1, 0, 0);
        two.street(0, 2, 1, 3, 0);
        two.start(0, 0);
        two.route(1);
        due.routed("16: of two streets to the same knot", two, 2);
        two.street(0, 0, 1, 2, 0);
        two.route(1);
        due.routed("16: of three", two, 0);
    }

    private static void routeOfMostStreets() {
        WaysTold x = Nets.line(24);
        x.start(0, 0);
        due.same("16: the farthest", x.route(23), 23);
        due.same("16: its last knot", x.routed(1), 23);
        due.same("16: its last exit", x.routed(32), 1);
        due.same("16: none behind it", x.routed(33), NONE);
        due.same("16: it goes on", x.go(3), 24);
    }

    private static void routeOfThirtyBecomesShort() {
        WaysTold x = thirty.told();
        due.same("16: thirty before", x.routed(0), MOST_ROUTED);
        due.same("16: one now", x.route(5), 1);
        due.routed("16: that one", x, 1);
        due.same("16: there is room again", x.go(3), 2);
        due.yes("16: what it went along before", x.close(4, 0));
        due.routed("16: takes nothing now", x, 1, 3);
    }

    // ---- 17: "NONE: none such, no ROUTE."

    private static void routedWithoutRoute() {
        for (int what : new int[] {0, 1, 2, 10, 11, 39}) {
            noRoute.none("17: no route, what " + what, x -> x.routed(what));
        }
    }

    private static void routedNoneSuch() {
        for (int what = 3; what <= 9; what++) {
            int w = what;
            town.none("17: what " + what, x -> x.routed(w));
        }
        for (int what : Edges.beyond(0, 11)) {
            town.none("17: what " + what, x -> x.routed(what));
        }
        due.same("17: the last of two", town.told().routed(11), 2);
    }

    private static void routedOfNoStreets() {
        Story begun = town.and(x -> x.start(9, 3));
        begun.leaves("17: no streets", x -> x.routed(0), 0);
        begun.leaves("17: its knot", x -> x.routed(1), 9);
        begun.leaves("17: its facing", x -> x.routed(2), 3);
        begun.none("17: no first exit", x -> x.routed(10));
    }

    private static void routedOfThirty() {
        thirty.leaves("17: streets", x -> x.routed(0), MOST_ROUTED);
        thirty.leaves("17: its first exit", x -> x.routed(10), 0);
        thirty.leaves("17: its last exit", x -> x.routed(39), 1);
        thirty.none("17: none behind it", x -> x.routed(40));
        thirty.leaves("17: its last knot", x -> x.routed(1), 2);
        thirty.leaves("17: the facing there", x -> x.routed(2), 1);
    }
}
