/** The boundaries that promises 22 to 24 name: what is kept, and counts. */
public final class KeptEdgesTest {
    private static final int NONE = WaysTold.NONE;
    private static final int MOST_KEPT = 8;
    private static final int MOST_SAID = 60;
    private static final int MOST_ROUTED = 30;
    private static final Due due = new Due();
    private static final Story nothing = new Story(due, x -> { });
    private static final Story town = new Story(due, Edges::town);
    private static final Story eight = new Story(due, KeptEdgesTest::townWithEight);

    public static void main(String[] args) {
        keepWithoutRoute();
        keepRefusesTheNinth();
        keepNothingSaidOfNoStreets();
        keepMostSaidAndRouted();
        keepFromAnyKnotAndFacing();
        keepIsApartFromWhatComesLater();
        stillOfNoneSuch();
        stillOfNothingKept();
        stillNoTelling();
        stillCantBeGone();
        stillByOtherStreets();
        stillAsSightsChange();
        stillAsNamesChange();
        stillAsTurnsChange();
        stillOfNoStreets();
        stillKindsNotAsked();
        stillHasNeedOfNoRoute();
        countOfAnother();
        countOfNothing();
        countOfTheMost();
        countAfterRefused();
        countPriceAsItIsNow();
        due.end();
    }

    /** Two are kept in the town; six more routes from 0, the longer the later. */
    private static void townWithEight(WaysTold x) {
        Edges.town(x);
        int[] exits = {1, 1, 2, 2, 3, 3};
        Nets.say(x, 0);
        x.start(0, 1);
        for (int exit : exits) {
            x.go(exit);
            x.keep();
        }
    }

    // ---- 22: "Refused: no ROUTE, 8."

    private static void keepWithoutRoute() {
        nothing.none("22: a new object", WaysTold::keep);
        Story gone = town.and(x -> x.close(3, 2));
        gone.none("22: the route is gone", WaysTold::keep);
        WaysTold x = gone.told();
        x.keep();
        x.start(0, 0);
        due.same("22: a refused one takes no number", x.keep(), 2);
    }

    private static void keepRefusesTheNinth() {
        WaysTold x = Nets.line(2);
        x.start(0, 1);
        for (int i = 0; i < MOST_KEPT; i++) {
            due.same("22: kept " + i, x.keep(), i);
        }
        due.same("22: the ninth", x.keep(), NONE);
        due.same("22: there are eight", eight.told().count(3), MOST_KEPT);
        eight.none("22: one more", WaysTold::keep);
        eight.and(y -> y.start(9, 0)).none("22: another one more", WaysTold::keep);
    }

    private static void keepNothingSaidOfNoStreets() {
        WaysTold x = Nets.knots(1);
        x.start(0, 0);
        due.same("22: nothing said of no streets", x.keep(), 0);
        due.same("23: holds", x.still(0), 1);
        x.say(0, 0);
        due.same("22: something said of no streets", x.keep(), 1);
        due.same("23: does not", x.still(1), 0);
        due.same("23: the first still does", x.still(0), 1);
    }

    private static void keepMostSaidAndRouted() {
        WaysTold x = Nets.ring(4);
        x.start(0, 1);
        for (int i = 0; i < MOST_ROUTED; i++) {
            x.go(1);
        }
        Nets.sayTimes(x, 0, MOST_ROUTED);
        due.same("22: thirty streets, thirty sayings", x.keep(), 0);
        Nets.sayTimes(x, 0, MOST_SAID - MOST_ROUTED);
        due.same("22: thirty streets, sixty sayings", x.keep(), 1);
        x.hush();
        x.start(0, 0);
        due.same("23: thirty hold", x.still(0), 1);
        due.same("23: sixty are too many", x.still(1), 0);
    }

    /** Straight leads along each of the routes, but from its own knot and facing alone. */
    private static void keepFromAnyKnotAndFacing() {
        int[] knots = {0, 1, 3, 2, 0, 1, 3, 2};
        int[] exits = {2, 3, 0, 1, 2, 3, 0, 1};
        int[] facings = {2, 3, 0, 1, 3, 0, 1, 2};
        WaysTold x = Nets.grid(2, 2);
        Nets.say(x, 0);
        for (int i = 0; i < MOST_KEPT; i++) {
            x.start(knots[i], facings[i]);
            x.go(exits[i]);
            x.keep();
        }
        x.start(0, 0);
        for (int i = 0; i < MOST_KEPT; i++) {
            due.same("23: from its own knot and facing, " + i, x.still(i), i < 4 ? 1 : 0);
        }
        x.close(0, 2);
        int[] answers = {0, 1, 1, 1};
        for (int i = 0; i < answers.length; i++) {
            due.same("23: without the first one's street, " + i, x.still(i), answers[i]);
        }
    }

    private static void keepIsApartFromWhatComesLater() {
        WaysTold x = Nets.line(5);
        x.start(0, 1);
        x.go(1);
        Nets.say(x, 0);
        x.keep();
        x.go(1);
        due.same("23: the route goes on", x.still(0), 1);
        x.say(0, 0);
        x.say(0, 0);
        due.same("23: more is said", x.still(0), 1);
        x.start(3, 3);
        x.hush();
        due.same("23: another route, nothing said", x.still(0), 1);
        Nets.say(x, 20, 20);
        x.keep();
        due.same("23: another one kept", x.still(0) * 10 + x.still(1), 10);
    }

    // ---- 23: "NONE: none such."

    private static void stillOfNoneSuch() {
        for (int kept : Edges.beyond(0, 1)) {
            town.none("23: still(" + kept + ")", x -> x.still(kept));
        }
        for (int kept : Edges.beyond(0, MOST_KEPT - 1)) {
            eight.none("23: of eight, still(" + kept + ")", x -> x.still(kept));
        }
        int[] answers = {1, 0, 1, 0, 0, 0, 0, 0};
        for (int i = 0; i < MOST_KEPT; i++) {
            int kept = i;
            eight.leaves("23: of eight, still(" + i + ")", x -> x.still(kept), answers[i]);
        }
    }

    private static void stillOfNothingKept() {
        for (int kept = -1; kept <= MOST_KEPT; kept++) {
            int k = kept;
            nothing.none("23: nothing kept, still(" + kept + ")", x -> x.still(k));
        }
    }

    /** "0: THE SAID kept is no TELLING of the ROUTE kept" */
    private static void stillNoTelling() {
        int[][] rows = {{}, {0}, {0, 0}, {0, 0, 0}, {0, 0, 10}, {80}, {0, 20}, {0, 0, 20, 20}};
        int[] answers = {0, 0, 1, 0, 0, 0, 0, 0};
        WaysTold x = Nets.line(4);
        x.start(0, 1);
        x.go(1);
        x.go(1);
        for (int[] row : rows) {
            Nets.say(x, row);
            x.keep();
        }
        x.start(1, 1);
        for (int i = 0; i < rows.length; i++) {
            due.same("23: row " + i, x.still(i), answers[i]);
        }
    }

    /** "or that can't be gone any more": the first, a middle or the last of its streets is gone. */
    private static void stillCantBeGone() {
        for (int from = 0; from < 3; from++) {
            WaysTold x = Nets.line(4);
            x.start(0, 1);
            x.route(3);
            Nets.say(x, 80);
            x.keep();
            Nets.say(x, 0, 0, 0);
            x.keep();
            x.close(from, 1);
            due.same("23: to the end, without street " + from, x.still(0), 0);
            due.same("23: straight, without street " + from, x.still(1), 0);
            due.same("23: both stay kept", x.count(3), 2);
            x.street(from, 1, from + 1, 3, 9);
            due.same("23: to the end, with it again", x.still(0), 1);
            due.same("23: straight, with it again", x.still(1), 1);
        }
    }

    /** A kept route is where it begins and its exits, wherever they lead now. */
    private static void stillByOtherStreets() {
        WaysTold x = Nets.line(3);
        x.knot(0);
        x.start(0, 1);
        x.go(1);
        x.go(1);
        Nets.say(x, 0, 0);
        x.keep();
        x.close(1, 1);
        x.street(1, 1, 3, 3, 0);
        due.same("23: its exits lead elsewhere", x.still(0), 1);
        x.close(0, 1);
        x.street(0, 1, 1, 0, 0);
        due.same("23: its exit is no longer straight on", x.still(0), 0);
    }

    private static void stillAsSightsChange() {
        WaysTold x = Nets.line(4);
        x.sight(2, 7);
        x.start(0, 1);
        x.route(2);
        Nets.say(x, 67);
        x.keep();
        due.same("23: the sight is there", x.still(0), 1);
        x.sight(2, 0);
        due.same("23: it is not", x.still(0), 0);
        x.sight(3, 7);
        due.same("23: it is too far", x.still(0), 0);
        x.sight(2, 7);
        x.sight(1, 7);
        due.same("23: it is too near", x.still(0), 0);
        x.sight(1, 6);
        due.same("23: it is there again", x.still(0), 1);
        x.sight(1, 8);
        x.sight(4, 7);
        due.same("23: refused ones change nothing", x.still(0), 1);
    }

    private static void stillAsNamesChange() {
        WaysTold x = Nets.knots(3);
        x.street(0, 1, 1, 3, 9);
        x.start(0, 1);
        x.go(1);
        Nets.say(x, 79);
        x.keep();
        due.same("23: the name is there", x.still(0), 1);
        x.street(0, 2, 2, 0, 9);
        due.same("23: it is there twice", x.still(0), 0);
        x.close(2, 0);
        due.same("23: once again", x.still(0), 1);
        x.close(0, 1);
        x.street(0, 1, 1, 3, 0);
        due.same("23: the street has no name now", x.still(0), 0);
    }

    private static void stillAsTurnsChange() {
        WaysTold x = Nets.grid(2, 4);
        x.close(1, 2);
        x.start(0, 1);
        x.go(1);
        x.go(1);
        x.go(2);
        Nets.say(x, 52);
        x.keep();
        due.same("23: the second right", x.still(0), 1);
        x.street(1, 2, 5, 0, 0);
        due.same("23: it is the third now", x.still(0), 0);
        x.close(0, 2);
        due.same("23: it is the second again", x.still(0), 1);
    }

    private static void stillOfNoStreets() {
        WaysTold x = Nets.line(2);
        x.start(0, 1);
        x.keep();
        x.close(0, 1);
        x.sight(0, 7);
        x.allow(0);
        due.same("23: nothing said of no streets", x.still(0), 1);
    }

    private static void stillKindsNotAsked() {
        for (int bits : new int[] {0, 1, 510, 511}) {
            WaysTold x = town.told();
            x.allow(bits);
            due.same("23: allowed " + bits, x.still(0), 1);
        }
    }

    private static void stillHasNeedOfNoRoute() {
        Story gone = town.and(x -> x.close(3, 2));
        due.same("23: there is no route", gone.told().routed(0), NONE);
        gone.leaves("23: the kept one holds", x -> x.still(0), 1);
        gone.leaves("23: the other does not", x -> x.still(1), 0);
    }

    // ---- 24: "NONE for another what."

    private static void countOfAnother() {
        for (int what : Edges.beyond(0, 5)) {
            town.none("24: count(" + what + ")", x -> x.count(what));
            nothing.none("24: a new object, count(" + what + ")", x -> x.count(what));
        }
        for (int what = 6; what <= 10; what++) {
            int w = what;
            town.none("24: count(" + what + ")", x -> x.count(w));
        }
    }

    private static void countOfNothing() {
        int[] counts = {0, 0, 0, 0, 0, 511};
        for (int what = 0; what <= 5; what++) {
            int w = what;
            nothing.leaves("24: a new object, count(" + what + ")", x -> x.count(w), counts[what]);
        }
    }

    private static void countOfTheMost() {
        WaysTold x = Nets.knots(24);
        for (int knot = 0; knot < 24; knot++) {
            x.street(knot, 1, (knot + 1) % 24, 3, 0);
            x.street(knot, 0, (knot + 1) % 24, 2, 0);
        }
        Nets.priceAll(x, 50);
        Nets.sayTimes(x, 67, MOST_SAID);
        x.start(23, 0);
        for (int i = 0; i < MOST_KEPT; i++) {
            x.keep();
        }
        int[] counts = {24, 48, 60, 8, 3000, 511};
        for (int what = 0; what <= 5; what++) {
            due.same("24: the most, count(" + what + ")", x.count(what), counts[what]);
        }
        x.knot(0);
        x.street(0, 0, 1, 1, 0);
        x.say(0, 0);
        x.keep();
        x.allow(512);
        for (int what = 0; what <= 5; what++) {
            due.same("24: no more, count(" + what + ")", x.count(what), counts[what]);
        }
    }

    private static void countAfterRefused() {
        WaysTold x = town.told();
        x.knot(-1);
        x.street(0, 1, 1, 3, 0);
        x.close(0, 0);
        x.say(9, 0);
        x.price(9, 0);
        x.allow(-1);
        int[] counts = {10, 13, 4, 2, 7, 511 - 16};
        for (int what = 0; what <= 5; what++) {
            due.same("24: after refused ones, count(" + what + ")", x.count(what), counts[what]);
        }
    }

    private static void countPriceAsItIsNow() {
        WaysTold x = new WaysTold();
        Nets.say(x, 0, 10, 20, 30, 41, 51, 61, 71, 80);
        due.same("24: at first", x.count(4), 24);
        Nets.priceAll(x, 0);
        due.same("24: for nothing", x.count(4), 0);
        x.price(8, 50);
        due.same("24: one of the most", x.count(4), 50);
        x.price(8, 51);
        due.same("24: a refused one changes nothing", x.count(4), 50);
        x.allow(0);
        due.same("24: allowed or not", x.count(4), 50);
    }
}
