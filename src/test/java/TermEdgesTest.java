/** The boundaries that the terms 1 and 2 name: knots, exits, facings, what each saying does. */
public final class TermEdgesTest {
    private static final int NONE = WaysTold.NONE;
    private static final int LOST_AT_FIRST = -2;
    private static final int[] RIGHT_OF = {1, 2, 3, 0};
    private static final int[] BACK_OF = {2, 3, 0, 1};
    private static final int[] LEFT_OF = {3, 0, 1, 2};
    private static final Due due = new Due();

    public static void main(String[] args) {
        comesInAndFaces();
        turnsByFour();
        nthTurnsByFour();
        namedByFour();
        lostWithoutStreets();
        lostStaysWhereItIs();
        lostGoesNoFurther();
        toTheEndByThirty();
        toTheEndRoundAndRound();
        untilByThirty();
        nthByThirty();
        nthWithoutAny();
        thirtyOfEachSaying();
        nthFirstOneToo();
        nthFourth();
        nthOneTooFew();
        nthAtTheLastKnot();
        untilOnceAtLeast();
        untilBackToItself();
        untilTheFirstOfTwo();
        namedNone();
        namedOnlyBack();
        namedMoreThanOne();
        namedOneStreetTwice();
        toTheEndOnceAtLeast();
        toTheEndByBentStreets();
        due.end();
    }

    /** Knot 0 in the middle, knots 1 to 4 at its exits 0 to 3. */
    private static WaysTold star(int... names) {
        WaysTold x = Nets.knots(5);
        for (int exit = 0; exit <= 3; exit++) {
            if (names[exit] != NONE) {
                x.street(0, exit, 1 + exit, BACK_OF[exit], names[exit]);
            }
        }
        return x;
    }

    private static void walks(String call, WaysTold x, int knot, int facing, int saying, int want) {
        Nets.say(x, saying);
        due.same(call + ", saying " + saying, x.walk(knot, facing), want);
    }

    /** Of the latest walk: where it was at last, its facing, and how many streets it went. */
    private static void ended(String call, WaysTold x, int at, int facing, int streets) {
        due.same(call + ", where", x.walked(0), at);
        due.same(call + ", facing", x.walked(1), facing);
        due.same(call + ", streets", x.walked(2), streets);
        due.same(call + ", none behind the last", x.walked(10 + streets), NONE);
    }

    // ---- term 1: "(by 4)"

    /** "Who comes in by EXIT e faces e and 2 (by 4)." */
    private static void comesInAndFaces() {
        for (int in = 0; in <= 3; in++) {
            WaysTold x = Nets.knots(2);
            x.street(0, 1, 1, in, 0);
            due.same("t1: look, in by " + in, x.look(0, 1, 1), BACK_OF[in]);
            walks("t1: in by " + in, x, 0, 1, 0, 1);
            due.same("t1: walked, in by " + in, x.walked(1), BACK_OF[in]);
            x.start(0, 1);
            x.go(1);
            due.same("t1: routed, in by " + in, x.routed(2), BACK_OF[in]);
            due.same("t1: back, in by 1", x.look(1, in, 1), 3);
        }
    }

    /** "RIGHT the next one, LEFT that and 3, BACK that and 2 (by 4)" */
    private static void turnsByFour() {
        for (int facing = 0; facing <= 3; facing++) {
            WaysTold x = star(0, 0, 0, 0);
            walks("t1: ahead of " + facing, x, 0, facing, 0, 1 + facing);
            walks("t1: right of " + facing, x, 0, facing, 10, 1 + RIGHT_OF[facing]);
            walks("t1: back of " + facing, x, 0, facing, 20, 1 + BACK_OF[facing]);
            walks("t1: left of " + facing, x, 0, facing, 30, 1 + LEFT_OF[facing]);
            due.same("t1: its exit", x.walked(10), LEFT_OF[facing]);
        }
    }

    private static void nthTurnsByFour() {
        for (int facing = 0; facing <= 3; facing++) {
            WaysTold x = star(0, 0, 0, 0);
            walks("t1: first left of " + facing, x, 0, facing, 41, 1 + LEFT_OF[facing]);
            walks("t1: first right of " + facing, x, 0, facing, 51, 1 + RIGHT_OF[facing]);
        }
    }

    /** "by the one EXIT, not BACK": each exit is the one but for who has it at its back. */
    private static void namedByFour() {
        for (int exit = 0; exit <= 3; exit++) {
            int[] names = {1, 1, 1, 1};
            names[exit] = 9;
            for (int facing = 0; facing <= 3; facing++) {
                int want = BACK_OF[facing] == exit ? LOST_AT_FIRST : 1 + exit;
                walks("t1: named at " + exit + ", facing " + facing, star(names), 0, facing, 79, want);
            }
        }
    }

    // ---- term 2: "LOST (and stays where it is then)"

    /** "Each goes by one STREET or more": none can be followed where there is none. */
    private static void lostWithoutStreets() {
        WaysTold x = new WaysTold();
        x.knot(3);
        int[] sayings = {0, 10, 20, 30, 41, 44, 51, 54, 61, 63, 67, 71, 79, 80};
        for (int saying : sayings) {
            walks("t2: no streets", x, 0, 2, saying, LOST_AT_FIRST);
            ended("t2: no streets, saying " + saying, x, 0, 2, 0);
        }
    }

    private static void lostStaysWhereItIs() {
        int[] sayings = {61, 41, 51};
        for (int saying : sayings) {
            WaysTold x = Nets.line(5);
            walks("t2: lost on the way", x, 1, 1, saying, LOST_AT_FIRST);
            ended("t2: lost on the way, saying " + saying, x, 4, 1, 3);
        }
    }

    private static void lostGoesNoFurther() {
        WaysTold x = Nets.line(5);
        Nets.say(x, 0, 10, 0, 20);
        due.same("t2: lost at saying 1", x.walk(0, 1), -3);
        ended("t2: later ones are not followed", x, 1, 1, 1);
    }

    // ---- term 2: "would go more than 30 STREETS by one"

    private static void toTheEndByThirty() {
        WaysTold x = Nets.longRoad();
        walks("t2: 30 streets", x, 1, 1, 80, 23);
        due.same("t2: they are 30", x.walked(2), 30);
        walks("t2: 31 streets", x, 0, 1, 80, LOST_AT_FIRST);
        ended("t2: 31 streets", x, 22, 1, 30);
    }

    private static void toTheEndRoundAndRound() {
        WaysTold x = Nets.ring(7);
        walks("t2: no end", x, 0, 1, 80, LOST_AT_FIRST);
        ended("t2: no end", x, 2, 1, 30);
        WaysTold loop = Nets.knots(1);
        loop.street(0, 1, 0, 3, 0);
        walks("t2: a street to the same knot", loop, 0, 1, 80, LOST_AT_FIRST);
        ended("t2: a street to the same knot", loop, 0, 1, 30);
    }

    private static void untilByThirty() {
        WaysTold x = Nets.longRoad();
        x.sight(22, 1);
        x.sight(23, 2);
        walks("t2: 30 streets", x, 0, 1, 61, 22);
        due.same("t2: they are 30", x.walked(2), 30);
        walks("t2: 31 streets", x, 0, 1, 62, LOST_AT_FIRST);
        ended("t2: 31 streets", x, 22, 1, 30);
        walks("t2: round and round", Nets.ring(4), 0, 1, 61, LOST_AT_FIRST);
    }

    /** A ring of 23 with a street aside at knot 10: the second time it is met is 23 streets on. */
    private static void nthByThirty() {
        int[][] aside = {{52, 2}, {42, 0}};
        for (int[] one : aside) {
            WaysTold x = Nets.ring(23);
            x.knot(0);
            x.street(10, one[1], 23, BACK_OF[one[1]], 0);
            walks("t2: the turn is street 30", x, 4, 1, one[0], 23);
            due.same("t2: 30 streets", x.walked(2), 30);
            due.same("t2: the last one is the turn", x.walked(39), one[1]);
            walks("t2: the turn is street 31", x, 3, 1, one[0], LOST_AT_FIRST);
            ended("t2: the turn is street 31", x, 10, 1, 30);
        }
    }

    private static void nthWithoutAny() {
        for (int saying : new int[] {41, 44, 51, 54}) {
            WaysTold x = Nets.ring(7);
            walks("t2: no turn at all", x, 0, 1, saying, LOST_AT_FIRST);
            ended("t2: no turn at all, saying " + saying, x, 2, 1, 30);
        }
    }

    /** Thirty are the most of one saying, not of all. */
    private static void thirtyOfEachSaying() {
        WaysTold x = Nets.longRoad();
        Nets.say(x, 0, 80);
        due.same("t2: 1 and 30", x.walk(0, 1), 23);
        due.same("t2: 31 in all", x.walked(2), 31);
        WaysTold ring = Nets.longRing();
        ring.sight(23, 1);
        Nets.sayTimes(ring, 61, 60);
        due.same("t2: 60 sayings of 30 streets", ring.walk(23, 1), 23);
        due.same("t2: 1800 in all", ring.walked(2), 1800);
        due.same("t2: as many from elsewhere, less one", ring.walk(0, 1), 23);
        due.same("t2: 1799 in all", ring.walked(2), 1799);
    }

    // ---- term 2: "until it has met NUMBER of them .. the first one too"

    private static void nthFirstOneToo() {
        WaysTold x = Nets.grid(2, 6);
        walks("t2: where it is", x, 1, 1, 51, 7);
        due.same("t2: one street", x.walked(2), 1);
        walks("t2: where it is, left", x, 7, 1, 41, 1);
        walks("t2: the second is the next", x, 1, 1, 52, 8);
        x.close(1, 2);
        walks("t2: where it is there is none", x, 1, 1, 51, 8);
    }

    private static void nthFourth() {
        WaysTold x = Nets.grid(2, 6);
        walks("t2: the fourth", x, 0, 1, 54, 9);
        walks("t2: the fourth, left", x, 6, 1, 44, 3);
        due.same("t2: 4 streets", x.walked(2), 4);
    }

    private static void nthOneTooFew() {
        WaysTold x = Nets.grid(2, 6);
        walks("t2: four are left", x, 2, 1, 54, 11);
        walks("t2: three are left", x, 3, 1, 54, LOST_AT_FIRST);
        ended("t2: three are left", x, 5, 1, 2);
        walks("t2: four are left, left", x, 8, 1, 44, 5);
        walks("t2: three are left, left", x, 9, 1, 44, LOST_AT_FIRST);
        ended("t2: three are left, left", x, 11, 1, 2);
    }

    /** The last knot has no street ahead, but the one aside. */
    private static void nthAtTheLastKnot() {
        WaysTold x = Nets.grid(2, 6);
        for (int column = 0; column < 5; column++) {
            x.close(column, 2);
        }
        walks("t2: at the last knot", x, 0, 1, 51, 11);
        walks("t2: where it is", x, 5, 1, 51, 11);
        walks("t2: no second one", x, 0, 1, 52, LOST_AT_FIRST);
        ended("t2: no second one", x, 5, 1, 5);
    }

    // ---- term 2: "it goes AHEAD, once at least, until it is at a KNOT with this SIGHT"

    private static void untilOnceAtLeast() {
        WaysTold x = Nets.line(3);
        x.sight(0, 7);
        walks("t2: the sight is where it is", x, 0, 1, 67, LOST_AT_FIRST);
        ended("t2: the sight is where it is", x, 2, 1, 2);
        x.sight(1, 7);
        walks("t2: the next one", x, 0, 1, 67, 1);
        due.same("t2: one street", x.walked(2), 1);
        walks("t2: no street ahead", x, 0, 3, 67, LOST_AT_FIRST);
        ended("t2: no street ahead", x, 0, 3, 0);
    }

    private static void untilBackToItself() {
        WaysTold x = Nets.ring(5);
        x.sight(2, 1);
        walks("t2: round to itself", x, 2, 1, 61, 2);
        due.same("t2: 5 streets", x.walked(2), 5);
        WaysTold loop = Nets.knots(1);
        loop.sight(0, 1);
        loop.street(0, 0, 0, 1, 0);
        walks("t2: by a street to itself", loop, 0, 0, 61, 0);
        ended("t2: by a street to itself", loop, 0, 3, 1);
    }

    private static void untilTheFirstOfTwo() {
        WaysTold x = Nets.line(5);
        x.sight(2, 1);
        x.sight(4, 1);
        walks("t2: the first of two", x, 0, 1, 61, 2);
        x.sight(2, 2);
        walks("t2: another sight is passed", x, 0, 1, 61, 4);
    }

    // ---- term 2: "LOST, if there is none or more than one"

    private static void namedNone() {
        for (int name = 1; name <= 9; name++) {
            WaysTold x = star(0, 0, 0, 0);
            walks("t2: no names", x, 0, 0, 70 + name, LOST_AT_FIRST);
            ended("t2: no names", x, 0, 0, 0);
            walks("t2: no streets", star(NONE, NONE, NONE, NONE), 0, 0, 70 + name, LOST_AT_FIRST);
        }
        WaysTold gone = star(5, 0, 0, 0);
        gone.close(0, 0);
        walks("t2: a street that is gone", gone, 0, 0, 75, LOST_AT_FIRST);
        gone.street(0, 0, 1, 2, 6);
        walks("t2: a street with another name now", gone, 0, 0, 75, LOST_AT_FIRST);
        walks("t2: its name now", gone, 0, 0, 76, 1);
    }

    private static void namedOnlyBack() {
        WaysTold x = star(0, 0, 5, 0);
        walks("t2: only at the back", x, 0, 0, 75, LOST_AT_FIRST);
        ended("t2: only at the back", x, 0, 0, 0);
        walks("t2: and ahead", star(5, 0, 5, 0), 0, 0, 75, 1);
        walks("t2: and right", star(0, 5, 5, 0), 0, 0, 75, 2);
        walks("t2: and left", star(0, 0, 5, 5), 0, 0, 75, 4);
    }

    private static void namedMoreThanOne() {
        int[][] rows = {{5, 5, 0, 0}, {5, 0, 0, 5}, {0, 5, 0, 5}, {5, 5, 0, 5}, {5, 5, 5, 5}};
        for (int[] names : rows) {
            WaysTold x = star(names);
            walks("t2: more than one", x, 0, 0, 75, LOST_AT_FIRST);
            ended("t2: more than one", x, 0, 0, 0);
        }
    }

    /** One street, but two exits whose street has the name. */
    private static void namedOneStreetTwice() {
        WaysTold x = Nets.knots(1);
        x.street(0, 0, 0, 1, 5);
        walks("t2: both of its exits", x, 0, 0, 75, LOST_AT_FIRST);
        walks("t2: one of them at the back", x, 0, 2, 75, 0);
        due.same("t2: out by the other", x.walked(10), 1);
    }

    // ---- term 2: "it goes AHEAD, once at least, until there is no STREET AHEAD"

    private static void toTheEndOnceAtLeast() {
        WaysTold x = Nets.line(3);
        walks("t2: one street", x, 1, 1, 80, 2);
        due.same("t2: one street", x.walked(2), 1);
        walks("t2: no street ahead", x, 2, 1, 80, LOST_AT_FIRST);
        ended("t2: no street ahead", x, 2, 1, 0);
    }

    private static void toTheEndByBentStreets() {
        WaysTold x = Nets.knots(3);
        x.street(0, 1, 1, 0, 0);
        x.street(1, 1, 2, 3, 0);
        walks("t2: ahead is not where it faced before", x, 0, 1, 80, 1);
        ended("t2: it ends facing 2", x, 1, 2, 1);
        x.street(1, 2, 2, 0, 0);
        walks("t2: ahead is where it faces now", x, 0, 1, 80, 2);
        ended("t2: and ends", x, 2, 2, 2);
    }
}
