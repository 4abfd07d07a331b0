/** The boundaries that promises 9 to 13 name: what is said, and a walker. */
public final class SaidEdgesTest {
    private static final int NONE = WaysTold.NONE;
    private static final int MOST_SAID = 60;
    private static final int[] LEAST = {0, 0, 0, 0, 1, 1, 1, 1, 0};
    private static final int[] MOST = {0, 0, 0, 0, 4, 4, 7, 9, 0};
    private static final Due due = new Due();
    private static final Story nothing = new Story(due, x -> { });
    private static final Story town = new Story(due, Edges::town);
    private static final Story sixty = new Story(due, SaidEdgesTest::townWithSixty);

    public static void main(String[] args) {
        sayRefusesNoSuchKind();
        sayRefusesNoSuchNumber();
        sayLeastAndMostNumber();
        sayRefusesThe61st();
        sayWhatIsNotAllowed();
        hushOfNothing();
        hushOfSixty();
        hushLeavesAllElse();
        saidOfNone();
        saidOfNothing();
        saidOfSixty();
        walkFromNoSuchKnot();
        walkFacingNoSuch();
        walkByNothing();
        walkLostAtTheFirst();
        walkLostAtTheLast();
        walkEndsAtFirstAndLastKnot();
        walkLeavesAllElse();
        walkedBeforeAny();
        walkedAfterRefused();
        walkedAnotherWhat();
        walkedNoSuchStreet();
        walkedTwoHundred();
        walkedLatestOnly();
        due.end();
    }

    private static void townWithSixty(WaysTold x) {
        Edges.town(x);
        x.hush();
        Nets.sayTimes(x, 10, MOST_SAID - 1);
        x.say(7, 9);
    }

    // ---- 9: "Refused: no such KIND, NUMBER; 60."

    private static void sayRefusesNoSuchKind() {
        for (int kind : Edges.beyond(0, 8)) {
            town.none("9: kind " + kind, x -> x.say(kind, 0));
            town.none("9: kind " + kind + ", number 1", x -> x.say(kind, 1));
        }
    }

    private static void sayRefusesNoSuchNumber() {
        for (int kind = 0; kind <= 8; kind++) {
            int k = kind;
            for (int number : Edges.beyond(LEAST[kind], MOST[kind])) {
                town.none("9: say(" + kind + ", " + number + ")", x -> x.say(k, number));
            }
            town.none("9: the next kind's, " + kind, x -> x.say(k, 10));
            nothing.none("9: the first one, kind " + kind, x -> x.say(k, MOST[k] + 1));
        }
    }

    private static void sayLeastAndMostNumber() {
        for (int kind = 0; kind <= 8; kind++) {
            WaysTold x = new WaysTold();
            due.same("9: the least, kind " + kind, x.say(kind, LEAST[kind]), 1);
            due.same("9: the most, kind " + kind, x.say(kind, MOST[kind]), 2);
            due.said("9: both", x, kind * 10 + LEAST[kind], kind * 10 + MOST[kind]);
        }
    }

    private static void sayRefusesThe61st() {
        WaysTold x = new WaysTold();
        for (int i = 1; i <= MOST_SAID; i++) {
            due.same("9: saying " + i, x.say(6, 7), i);
        }
        due.same("9: saying 61", x.say(6, 7), NONE);
        for (int kind = 0; kind <= 8; kind++) {
            int k = kind;
            sixty.none("9: one more, kind " + kind, y -> y.say(k, MOST[k]));
        }
        sixty.none("9: one more, no such kind", y -> y.say(9, 0));
        x.hush();
        due.same("9: there is room again", x.say(0, 0), 1);
    }

    private static void sayWhatIsNotAllowed() {
        WaysTold x = town.told();
        x.allow(0);
        for (int kind = 0; kind <= 8; kind++) {
            due.same("9: not allowed, but said", x.say(kind, LEAST[kind]), 5 + kind);
        }
    }

    // ---- 10: "Nothing is SAID: how many there were."

    private static void hushOfNothing() {
        nothing.leaves("10: of nothing", WaysTold::hush, 0);
        town.and(WaysTold::hush).leaves("10: twice", WaysTold::hush, 0);
    }

    private static void hushOfSixty() {
        WaysTold x = sixty.told();
        due.same("10: of sixty", x.hush(), MOST_SAID);
        due.said("10: nothing is said", x);
        due.same("10: it costs nothing", x.count(4), 0);
    }

    private static void hushLeavesAllElse() {
        WaysTold x = town.told();
        due.same("10: of four", x.hush(), 4);
        due.routed("10: the route stays", x, 3, 2);
        due.same("10: what is kept stays", x.still(0), 1);
        due.same("10: the walk stays", x.walked(2), 3);
    }

    // ---- 11: "NONE for none such"

    private static void saidOfNone() {
        for (int i : Edges.beyond(0, 3)) {
            town.none("11: said(" + i + ")", x -> x.said(i));
        }
        due.same("11: the first", town.told().said(0), 51);
        due.same("11: the last", town.told().said(3), 30);
    }

    private static void saidOfNothing() {
        nothing.none("11: the first of none", x -> x.said(0));
        town.and(WaysTold::hush).none("11: the first, after hush", x -> x.said(0));
        WaysTold x = new WaysTold();
        x.say(0, 0);
        due.same("11: straight is 0, not none", x.said(0), 0);
        due.same("11: and there is no other", x.said(1), NONE);
    }

    private static void saidOfSixty() {
        for (int i : Edges.beyond(0, MOST_SAID - 1)) {
            sixty.none("11: of sixty, said(" + i + ")", x -> x.said(i));
        }
        due.same("11: the last of sixty", sixty.told().said(MOST_SAID - 1), 79);
        due.same("11: the one before", sixty.told().said(MOST_SAID - 2), 10);
    }

    // ---- 12: "NONE: no such KNOT, facing."

    private static void walkFromNoSuchKnot() {
        for (int knot : Edges.beyond(0, 9)) {
            town.none("12: knot " + knot, x -> x.walk(knot, 1));
        }
        new Story(due, Edges::twentyFour).none("12: knot 24", x -> x.walk(24, 1));
    }

    private static void walkFacingNoSuch() {
        for (int facing : Edges.beyond(0, 3)) {
            town.none("12: facing " + facing, x -> x.walk(0, facing));
        }
    }

    private static void walkByNothing() {
        WaysTold x = town.told();
        x.hush();
        for (int facing = 0; facing <= 3; facing++) {
            due.same("12: nothing is said", x.walk(9, facing), 9);
            due.same("12: it stays", x.walked(0), 9);
            due.same("12: and faces", x.walked(1), facing);
            due.same("12: no streets", x.walked(2), 0);
        }
    }

    /** "-2 less the number of the SAYING at which it is LOST" */
    private static void walkLostAtTheFirst() {
        WaysTold x = Nets.line(2);
        Nets.say(x, 30, 0, 0);
        due.same("12: lost at saying 0", x.walk(0, 1), -2);
    }

    private static void walkLostAtTheLast() {
        WaysTold x = Nets.ring(3);
        Nets.sayTimes(x, 0, MOST_SAID - 1);
        x.say(1, 0);
        due.same("12: lost at saying 59", x.walk(0, 1), -61);
        due.same("12: it went by the others", x.walked(2), MOST_SAID - 1);
        x.hush();
        Nets.sayTimes(x, 0, MOST_SAID);
        due.same("12: sixty sayings", x.walk(0, 1), 0);
        due.same("12: sixty streets", x.walked(2), MOST_SAID);
    }

    private static void walkEndsAtFirstAndLastKnot() {
        WaysTold x = Nets.line(24);
        x.say(8, 0);
        due.same("12: the first knot", x.walk(23, 3), 0);
        due.same("12: the last knot", x.walk(0, 1), 23);
        due.same("12: 23 streets", x.walked(2), 23);
    }

    private static void walkLeavesAllElse() {
        WaysTold x = town.told();
        x.walk(8, 3);
        due.said("12: what is said stays", x, 51, 61, 10, 30);
        due.routed("12: the route stays", x, 3, 2);
        due.same("12: the kept stay", x.count(3), 2);
    }

    // ---- 13: "NONE: there was none, no such STREET (the first 200 are told), another what."

    private static void walkedBeforeAny() {
        Story noWalk = new Story(due, Edges::twentyFour);
        for (int what : new int[] {0, 1, 2, 10, 11, 209, 210}) {
            noWalk.none("13: no walk, what " + what, x -> x.walked(what));
        }
        Story others = noWalk.and(x -> {
            x.tell();
            x.holds();
            x.slip(0);
            x.best(0, 1, 23);
            x.walk(24, 0);
            x.walk(0, 4);
            x.keep();
            x.still(0);
        });
        for (int what : new int[] {0, 1, 2, 10}) {
            others.none("13: no walk but other calls, what " + what, x -> x.walked(what));
        }
    }

    /** "Of the latest walk() that was not refused" */
    private static void walkedAfterRefused() {
        WaysTold x = town.told();
        x.hush();
        x.walk(-1, 0);
        x.walk(10, 0);
        x.walk(0, -1);
        x.walk(0, 4);
        due.same("13: where", x.walked(0), 5);
        due.same("13: facing", x.walked(1), 2);
        due.same("13: streets", x.walked(2), 3);
        due.same("13: the last exit", x.walked(12), 2);
    }

    private static void walkedAnotherWhat() {
        for (int what = 3; what <= 9; what++) {
            int w = what;
            town.none("13: what " + what, x -> x.walked(w));
        }
        for (int what : Edges.beyond(0, 209)) {
            town.none("13: what " + what, x -> x.walked(what));
        }
    }

    private static void walkedNoSuchStreet() {
        due.same("13: the last of three", town.told().walked(12), 2);
        town.none("13: the fourth of three", x -> x.walked(13));
        Story none = town.and(WaysTold::hush).and(x -> x.walk(0, 0));
        none.none("13: the first of none", x -> x.walked(10));
    }

    /** Each of the sayings goes by four streets, so 49, 50 and 51 of them by 196, 200 and 204. */
    private static void walkedTwoHundred() {
        for (int sayings = 49; sayings <= 51; sayings++) {
            WaysTold x = Nets.ring(4);
            x.sight(0, 1);
            Nets.sayTimes(x, 61, sayings);
            x.walk(0, 1);
            int streets = sayings * 4;
            due.same("13: streets", x.walked(2), streets);
            due.same("13: the 196th", x.walked(205), 1);
            due.same("13: the 197th of " + streets, x.walked(206), streets < 197 ? NONE : 1);
            due.same("13: the 200th of " + streets, x.walked(209), streets < 200 ? NONE : 1);
            due.same("13: the 201st of " + streets, x.walked(210), NONE);
            due.same("13: the 204th of " + streets, x.walked(213), NONE);
        }
    }

    private static void walkedLatestOnly() {
        WaysTold x = Nets.ring(4);
        x.sight(0, 1);
        Nets.sayTimes(x, 61, 51);
        x.walk(0, 1);
        Nets.say(x, 20);
        x.walk(0, 1);
        due.same("13: the latest, streets", x.walked(2), 1);
        due.same("13: its exit", x.walked(10), 3);
        due.same("13: nothing of the one before", x.walked(11), NONE);
        x.hush();
        x.walk(2, 3);
        due.same("13: the latest went nowhere", x.walked(2), 0);
        due.same("13: and has no exits", x.walked(10), NONE);
    }
}
