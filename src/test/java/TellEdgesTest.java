/** The boundaries that term 3 and promises 18 to 20 name: tellings, and slips. */
public final class TellEdgesTest {
    private static final int NONE = WaysTold.NONE;
    private static final int MOST_SAID = 60;
    private static final int MOST_ROUTED = 30;
    private static final Due due = new Due();
    private static final Story town = new Story(due, Edges::town);
    private static final Story noRoute = new Story(due, Edges::townWithoutRoute);

    public static void main(String[] args) {
        tellWithoutRoute();
        tellWithoutAny();
        tellWithoutAnyLeavesSixty();
        tellOfNoStreets();
        tellByOneKindAlone();
        tellByEachNumber();
        tellThirtyByThirty();
        tellThirtyByOne();
        tellDearest();
        tellForNothing();
        tellInPlaceOfSixty();
        tellLeastPriceFirst();
        tellFewestNext();
        tellLessKindAtTheFirst();
        tellLessKindAtTheLast();
        tellFirstNotAlike();
        tellLessNumber();
        tellJustItsExits();
        holdsWithoutRoute();
        holdsOfNothing();
        holdsOneTooFewOrTooMany();
        holdsNotIfLost();
        holdsNotByOtherStreets();
        holdsKindsNotAsked();
        holdsOfThirty();
        holdsOfSixty();
        slipWithoutRoute();
        slipAtNoSuchSaying();
        slipWithoutOne();
        slipOfTurnsByFour();
        slipOfFourth();
        slipOfNthLost();
        slipOfUntilPassesTheFirst();
        slipOfUntilLost();
        slipOfUntilByThirty();
        slipLostAtTheFirst();
        slipLostAtTheLast();
        slipLostBeforeIt();
        slipOnARouteOfNoStreets();
        due.end();
    }

    // ---- 18: "NONE: there is no ROUTE, or none (what was SAID stays)."

    private static void tellWithoutRoute() {
        noRoute.none("18: no route", WaysTold::tell);
        noRoute.and(WaysTold::hush).none("18: no route, nothing said", WaysTold::tell);
    }

    private static void tellWithoutAny() {
        town.and(x -> x.allow(0)).none("18: nothing is allowed", WaysTold::tell);
        town.and(x -> x.allow(4)).none("18: only back is allowed", WaysTold::tell);
        Story half = town.and(x -> x.allow(1));
        half.none("18: straight is the first, not the second", WaysTold::tell);
        Story end = new Story(due, x -> {
            Nets.say(x, 44);
            x.knot(0);
            x.knot(0);
            x.knot(0);
            x.street(0, 1, 1, 3, 0);
            x.street(1, 1, 2, 3, 0);
            x.allow(256);
            Nets.begin(x, 0, 1, 1);
        });
        end.none("18: to the end goes too far", WaysTold::tell);
    }

    private static void tellWithoutAnyLeavesSixty() {
        Story sixty = town.and(x -> x.allow(0)).and(x -> Nets.sayTimes(x, 79, MOST_SAID - 4));
        due.same("18: sixty are said", sixty.told().count(2), MOST_SAID);
        sixty.none("18: sixty stay", WaysTold::tell);
    }

    private static void tellOfNoStreets() {
        for (int bits : new int[] {0, 511}) {
            WaysTold x = town.told();
            x.allow(bits);
            x.start(4, 2);
            due.same("18: no streets", x.tell(), 0);
            due.said("18: nothing is said", x);
            due.same("19: that holds", x.holds(), 1);
        }
    }

    /** A route of one street, which has a name, and a sight and no street ahead at its end. */
    private static void tellByOneKindAlone() {
        int[][] facings = {{1, 0}, {0, 10}, {3, 20}, {2, 30}, {2, 41}, {0, 51}, {1, 67}, {1, 79}, {1, 80}};
        for (int kind = 0; kind <= 8; kind++) {
            WaysTold x = Nets.knots(2);
            x.street(0, 1, 1, 3, 9);
            x.sight(1, 7);
            Nets.begin(x, 0, facings[kind][0], 1);
            x.allow(1 << kind);
            x.price(kind, 50);
            due.same("18: kind " + kind + " alone", x.tell(), 50);
            due.said("18: it is said", x, facings[kind][1]);
            x.allow(0);
            due.same("18: nor that one", x.tell(), NONE);
            due.said("18: it stays", x, facings[kind][1]);
        }
    }

    private static void tellByEachNumber() {
        for (int number = 1; number <= 4; number++) {
            WaysTold x = Nets.grid(2, 4);
            x.start(0, 1);
            Nets.goTimes(x, 1, number - 1);
            x.go(2);
            tellBy(x, 50 + number);
            x.start(4, 1);
            Nets.goTimes(x, 1, number - 1);
            x.go(0);
            tellBy(x, 40 + number);
        }
        for (int number = 1; number <= 9; number++) {
            WaysTold x = Nets.knots(2);
            x.street(0, 1, 1, 3, number);
            Nets.begin(x, 0, 1, 1);
            tellBy(x, 70 + number);
            if (number <= 7) {
                x.sight(1, number);
                tellBy(x, 60 + number);
            }
        }
    }

    private static void tellBy(WaysTold x, int saying) {
        int kind = saying / 10;
        x.allow(1 << kind);
        x.price(kind, 50 - kind);
        due.same("18: by " + saying, x.tell(), 50 - kind);
        due.said("18: by " + saying, x, saying);
    }

    /** "a row of at most 30 EXITS": a saying for each of them. */
    private static void tellThirtyByThirty() {
        WaysTold x = Nets.ring(4);
        x.start(0, 1);
        Nets.goTimes(x, 1, MOST_ROUTED);
        due.same("18: thirty streets", x.tell(), MOST_ROUTED);
        due.same("18: thirty sayings", x.count(2), MOST_ROUTED);
        due.same("18: the last one", x.said(MOST_ROUTED - 1), 0);
        due.same("19: they hold", x.holds(), 1);
    }

    private static void tellThirtyByOne() {
        WaysTold x = Nets.longRoad();
        x.start(1, 1);
        Nets.goTimes(x, 1, 6);
        x.go(1);
        Nets.goTimes(x, 0, 8);
        Nets.goTimes(x, 1, 15);
        due.same("18: thirty streets", x.routed(0), MOST_ROUTED);
        due.same("18: to the end", x.tell(), 2);
        due.said("18: one saying", x, 80);
        x.allow(64);
        due.same("18: no sight", x.tell(), NONE);
        x.sight(23, 5);
        due.same("18: until", x.tell(), 3);
        due.said("18: one saying too", x, 65);
    }

    private static void tellDearest() {
        WaysTold x = Nets.ring(4);
        x.start(0, 1);
        Nets.goTimes(x, 1, MOST_ROUTED);
        Nets.priceAll(x, 50);
        due.same("18: thirty of the most", x.tell(), 1500);
        due.same("18: their price", x.count(4), 1500);
    }

    private static void tellForNothing() {
        WaysTold x = Nets.line(4);
        Nets.begin(x, 0, 1, 1, 1, 1);
        Nets.priceAll(x, 0);
        due.same("18: for nothing", x.tell(), 0);
        due.said("18: the fewest", x, 80);
        x.allow(511 - 256);
        due.same("18: for nothing again", x.tell(), 0);
        due.said("18: three of them", x, 0, 0, 0);
    }

    private static void tellInPlaceOfSixty() {
        WaysTold x = Nets.line(2);
        Nets.sayTimes(x, 79, MOST_SAID);
        Nets.begin(x, 0, 1, 1);
        due.same("18: one street", x.tell(), 1);
        due.said("18: of the sixty none is left", x, 0);
    }

    // ---- term 3: "The BEST"

    private static void tellLeastPriceFirst() {
        WaysTold x = Nets.line(4);
        Nets.begin(x, 0, 1, 1, 1, 1);
        x.price(8, 4);
        due.same("18: three of 1, not one of 4", x.tell(), 3);
        due.said("18: three", x, 0, 0, 0);
    }

    private static void tellFewestNext() {
        WaysTold x = Nets.line(4);
        Nets.begin(x, 0, 1, 1, 1, 1);
        x.price(8, 3);
        due.same("18: three of 1 or one of 3", x.tell(), 3);
        due.said("18: one, though its kind is more", x, 80);
    }

    private static void tellLessKindAtTheFirst() {
        WaysTold x = Nets.line(3);
        x.sight(1, 1);
        x.sight(2, 1);
        Nets.begin(x, 0, 1, 1, 1);
        x.price(0, 3);
        x.price(8, 50);
        due.same("18: two of 3", x.tell(), 6);
        due.said("18: straight before until", x, 0, 0);
        x.close(1, 1);
        x.street(1, 1, 2, 3, 1);
        Nets.begin(x, 0, 1, 1, 1);
        x.allow(511 - 1);
        due.same("18: two of 3 without straight", x.tell(), 6);
        due.said("18: until before named", x, 61, 61);
    }

    /** The first saying is alike in the best rows, so the second decides. */
    private static void tellLessKindAtTheLast() {
        WaysTold x = Nets.knots(3);
        x.street(0, 1, 1, 3, 0);
        x.street(1, 2, 2, 0, 8);
        Nets.begin(x, 0, 1, 1, 2);
        Nets.priceAll(x, 5);
        x.allow(1 + 2 + 128);
        due.same("18: two of 5", x.tell(), 10);
        due.said("18: right before named", x, 0, 10);
        x.allow(1 + 128);
        due.same("18: two of 5 without right", x.tell(), 10);
        due.said("18: named", x, 0, 78);
    }

    /** "at the first one that is not alike": straight and until, or until and straight. */
    private static void tellFirstNotAlike() {
        WaysTold x = Nets.line(4);
        x.sight(1, 2);
        x.sight(2, 1);
        x.sight(3, 2);
        Nets.begin(x, 0, 1, 1, 1, 1);
        x.allow(1 + 64);
        Nets.priceAll(x, 3);
        due.same("18: two of 3", x.tell(), 6);
        due.said("18: the less kind at the first, the more at the second", x, 0, 62);
    }

    private static void tellLessNumber() {
        WaysTold x = Nets.line(4);
        x.sight(1, 7);
        x.sight(2, 6);
        x.sight(3, 7);
        Nets.begin(x, 0, 1, 1, 1, 1);
        x.allow(64);
        due.same("18: two of until", x.tell(), 6);
        due.said("18: the less number first, though the other is nearer", x, 66, 67);
    }

    /** "goes by just its EXITS, one behind another" */
    private static void tellJustItsExits() {
        WaysTold x = Nets.grid(3, 3);
        x.sight(2, 1);
        Nets.priceAll(x, 50);
        x.price(8, 0);
        x.price(6, 0);
        Nets.begin(x, 0, 1, 1);
        due.same("18: until and to the end go too far", x.tell(), 50);
        due.said("18: straight", x, 0);
        Nets.begin(x, 0, 1, 1, 1);
        due.same("18: just so far", x.tell(), 0);
        due.said("18: the less kind", x, 61);
        Nets.begin(x, 0, 1, 2, 1, 0, 1);
        due.same("18: the same end by other exits", x.tell(), 200);
        due.said("18: a turn for each", x, 10, 30, 30, 10);
        due.same("19: holds", x.holds(), 1);
    }

    // ---- 19: "NONE: no ROUTE."

    private static void holdsWithoutRoute() {
        noRoute.none("19: no route", WaysTold::holds);
        noRoute.and(WaysTold::hush).none("19: no route, nothing said", WaysTold::holds);
        town.leaves("19: a route", WaysTold::holds, 0);
    }

    private static void holdsOfNothing() {
        Story begun = town.and(x -> x.start(4, 0));
        begun.leaves("19: something said of no streets", WaysTold::holds, 0);
        begun.and(WaysTold::hush).leaves("19: nothing of no streets", WaysTold::holds, 1);
        town.and(WaysTold::hush).leaves("19: nothing of two streets", WaysTold::holds, 0);
    }

    private static void holdsOneTooFewOrTooMany() {
        for (int many = 0; many <= 4; many++) {
            WaysTold x = Nets.line(6);
            Nets.begin(x, 0, 1, 1, 1);
            Nets.sayTimes(x, 0, many);
            due.same("19: two streets, sayings " + many, x.holds(), many == 2 ? 1 : 0);
        }
        WaysTold x = Nets.line(6);
        Nets.begin(x, 0, 1, 1, 1);
        Nets.say(x, 0, 0, 20, 20);
        due.same("19: there and back and there", x.holds(), 0);
    }

    private static void holdsNotIfLost() {
        WaysTold x = Nets.line(3);
        Nets.begin(x, 0, 1, 1, 1);
        Nets.say(x, 0, 0, 0);
        due.same("19: lost where the route ends", x.holds(), 0);
        Nets.say(x, 61);
        due.same("19: all its exits, but lost", x.holds(), 0);
        x.start(0, 1);
        Nets.say(x, 10);
        due.same("19: lost at once, no streets", x.holds(), 0);
    }

    private static void holdsNotByOtherStreets() {
        WaysTold x = Nets.grid(2, 2);
        Nets.begin(x, 0, 1, 1, 2);
        Nets.say(x, 10, 30);
        due.same("12: the same end", x.walk(0, 1), 3);
        due.same("19: by other exits", x.holds(), 0);
        Nets.say(x, 0, 10);
        due.same("19: by its own", x.holds(), 1);
        x.start(0, 0);
        x.go(1);
        x.go(2);
        due.same("19: from another facing", x.holds(), 0);
    }

    /** "KINDS not asked" */
    private static void holdsKindsNotAsked() {
        for (int bits : new int[] {0, 1, 510, 511}) {
            WaysTold x = Nets.line(3);
            Nets.begin(x, 0, 1, 1, 1);
            Nets.say(x, 0, 0);
            x.allow(bits);
            due.same("19: allowed " + bits, x.holds(), 1);
        }
    }

    private static void holdsOfThirty() {
        for (int many = MOST_ROUTED - 1; many <= MOST_ROUTED + 1; many++) {
            WaysTold x = Nets.ring(4);
            x.start(0, 1);
            Nets.goTimes(x, 1, MOST_ROUTED);
            Nets.sayTimes(x, 0, many);
            due.same("19: thirty streets, sayings " + many, x.holds(), many == MOST_ROUTED ? 1 : 0);
        }
    }

    private static void holdsOfSixty() {
        WaysTold x = Nets.longRing();
        x.sight(23, 1);
        x.start(23, 1);
        Nets.sayTimes(x, 61, MOST_SAID);
        due.same("19: 1800 streets are no route of none", x.holds(), 0);
        x.go(1);
        due.same("19: nor of one", x.holds(), 0);
    }

    // ---- 20: "NONE: no ROUTE, no such SAYING, one without a SLIP."

    private static void slipWithoutRoute() {
        for (int i = 0; i <= 4; i++) {
            int at = i;
            noRoute.none("20: no route, slip(" + i + ")", x -> x.slip(at));
        }
    }

    private static void slipAtNoSuchSaying() {
        for (int i : Edges.beyond(0, 3)) {
            town.none("20: slip(" + i + ")", x -> x.slip(i));
        }
        town.and(WaysTold::hush).none("20: nothing is said", x -> x.slip(0));
        Story sixty = town.and(x -> Nets.sayTimes(x, 10, MOST_SAID - 4));
        for (int i : Edges.beyond(0, MOST_SAID - 1)) {
            sixty.none("20: of sixty, slip(" + i + ")", x -> x.slip(i));
        }
    }

    /** "or there is none (0, 2, 7, 8)" */
    private static void slipWithoutOne() {
        for (int saying : new int[] {0, 20, 71, 79, 80}) {
            Story one = town.and(x -> Nets.say(x, saying));
            one.none("20: without a slip, " + saying, x -> x.slip(0));
        }
        for (int saying : new int[] {10, 30, 41, 44, 51, 54, 61, 67}) {
            WaysTold x = Nets.knots(1);
            x.start(0, 0);
            Nets.say(x, saying);
            due.same("20: with a slip, " + saying, x.slip(0), -2);
        }
    }

    private static void slipOfTurnsByFour() {
        int[] at = {1, 5, 7, 3};
        int[] rightOf = {1, 2, 3, 0};
        int[] leftOf = {3, 0, 1, 2};
        for (int facing = 0; facing <= 3; facing++) {
            WaysTold x = Nets.grid(3, 3);
            Nets.begin(x, 4, facing, leftOf[facing]);
            due.same("20: to the left", x.routed(1), at[leftOf[facing]]);
            Nets.say(x, 10);
            due.same("20: left for right, facing " + facing, x.slip(0), 1);
            Nets.say(x, 30);
            due.same("20: right for left, facing " + facing, x.slip(0), 0);
            Nets.begin(x, 4, facing, rightOf[facing]);
            due.same("20: to the right, facing " + facing, x.slip(0), 1);
        }
    }

    /** "of KINDS 4, 5 the NUMBER is one more": the fifth for the fourth. */
    private static void slipOfFourth() {
        WaysTold x = Nets.grid(2, 6);
        for (int number = 1; number <= 4; number++) {
            x.start(0, 1);
            Nets.goTimes(x, 1, number);
            x.go(2);
            Nets.say(x, 50 + number);
            due.same("20: one more right than " + number, x.slip(0), 1);
            x.start(6, 1);
            Nets.goTimes(x, 1, number);
            x.go(0);
            Nets.say(x, 40 + number);
            due.same("20: one more left than " + number, x.slip(0), 1);
        }
        due.said("20: what is said stays", x, 44);
    }

    private static void slipOfNthLost() {
        WaysTold x = Nets.grid(2, 4);
        Nets.begin(x, 0, 1, 1, 1, 1, 2);
        Nets.say(x, 54);
        due.same("20: the last one holds", x.holds(), 1);
        due.same("20: there is none behind it", x.slip(0), -2);
        Nets.say(x, 53, 0);
        due.same("20: lost at the one behind", x.slip(0), -3);
    }

    /** "of 6 the first KNOT with the SIGHT that it comes to is passed" */
    private static void slipOfUntilPassesTheFirst() {
        WaysTold x = Nets.line(8);
        for (int knot : new int[] {0, 2, 4, 6}) {
            x.sight(knot, 1);
        }
        Nets.say(x, 61);
        x.start(0, 1);
        due.same("20: where it begins is not come to", x.route(4), 4);
        due.same("20: the first passed, the second not", x.slip(0), 1);
        x.start(1, 1);
        x.route(4);
        due.same("20: from beside it", x.slip(0), 1);
        Nets.say(x, 61, 61);
        x.route(6);
        due.same("20: at the second saying alone", x.slip(1), 1);
        due.same("20: at the first saying alone", x.slip(0), 1);
        x.route(4);
        due.same("20: then it ends elsewhere", x.slip(0), 0);
    }

    private static void slipOfUntilLost() {
        WaysTold x = Nets.line(4);
        x.sight(3, 1);
        Nets.begin(x, 0, 1, 1, 1, 1);
        Nets.say(x, 61);
        due.same("20: it holds", x.holds(), 1);
        due.same("20: it can't be passed", x.slip(0), -2);
        x.sight(2, 1);
        x.sight(3, 0);
        due.same("20: there is no second one", x.slip(0), -2);
    }

    private static void slipOfUntilByThirty() {
        WaysTold x = Nets.ring(16);
        x.sight(14, 1);
        x.start(0, 1);
        x.say(6, 1);
        due.same("20: the same one again, street 30", x.slip(0), 0);
        x.route(14);
        due.same("20: and it ends there", x.slip(0), 1);
        x.sight(14, 0);
        x.sight(15, 1);
        due.same("20: the same one again, street 31", x.slip(0), -2);
    }

    /** "-2 less the number of the SAYING at which it is LOST" */
    private static void slipLostAtTheFirst() {
        WaysTold x = Nets.grid(2, 2);
        Nets.begin(x, 0, 1, 2);
        Nets.say(x, 10, 10, 10);
        due.same("20: lost at saying 0", x.slip(0), -2);
    }

    private static void slipLostAtTheLast() {
        WaysTold x = Nets.ring(4);
        x.knot(0);
        x.street(3, 2, 4, 0, 0);
        x.start(0, 1);
        Nets.sayTimes(x, 0, MOST_SAID - 1);
        x.say(1, 0);
        due.same("12: sixty sayings", x.walk(0, 1), 4);
        due.same("20: lost at saying 59", x.slip(MOST_SAID - 1), -61);
    }

    private static void slipLostBeforeIt() {
        WaysTold x = Nets.line(3);
        Nets.begin(x, 0, 1, 1);
        Nets.say(x, 0, 0, 0, 10);
        due.same("20: lost at saying 2, before the slip", x.slip(3), -4);
    }

    private static void slipOnARouteOfNoStreets() {
        WaysTold x = Nets.grid(3, 3);
        x.start(4, 0);
        Nets.say(x, 10, 20);
        due.same("20: there and back", x.slip(0), 1);
        Nets.say(x, 10);
        due.same("20: there", x.slip(0), 0);
    }
}
