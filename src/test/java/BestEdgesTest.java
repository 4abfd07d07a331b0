import java.util.ArrayList;
import java.util.Arrays;
import java.util.List;

/** The boundaries that promise 21 names: the best way at all. */
public final class BestEdgesTest {
    private static final int NONE = WaysTold.NONE;
    private static final int MOST_SAID = 60;
    private static final Due due = new Due();
    private static final Story town = new Story(due, Edges::town);
    private static final Story full = new Story(due, Edges::twentyFour);

    public static void main(String[] args) {
        fromNoSuchKnot();
        facingNoSuch();
        toNoSuchKnot();
        whereNoStreetLeads();
        whereNothingAllowedLeads();
        toItself();
        toItselfByNothingAllowed();
        toItselfInPlaceOfSixty();
        asItEnds();
        facingNotAsked();
        notAtTheNextKnot();
        bySayingsOfThirty();
        byEachNumber();
        leastPriceFirst();
        fewestNext();
        lessKindAtTheFirst();
        lessNumber();
        firstAndLastKnot();
        leavesAllElse();
        sixtyAndSixtyOne();
        due.end();
    }

    // ---- "NONE: none such, there is none"

    private static void fromNoSuchKnot() {
        for (int knot : Edges.beyond(0, 9)) {
            town.none("21: from " + knot, x -> x.best(knot, 1, 8));
            town.none("21: from " + knot + " to itself", x -> x.best(knot, 1, knot));
        }
        full.none("21: from 24", x -> x.best(24, 1, 0));
    }

    private static void facingNoSuch() {
        for (int facing : Edges.beyond(0, 3)) {
            town.none("21: facing " + facing, x -> x.best(0, facing, 8));
            town.none("21: facing " + facing + ", to itself", x -> x.best(0, facing, 0));
        }
    }

    private static void toNoSuchKnot() {
        for (int knot : Edges.beyond(0, 9)) {
            town.none("21: to " + knot, x -> x.best(0, 1, knot));
        }
        full.none("21: to 24", x -> x.best(0, 1, 24));
    }

    private static void whereNoStreetLeads() {
        town.none("21: to a knot apart", x -> x.best(0, 1, 9));
        town.none("21: from a knot apart", x -> x.best(9, 1, 0));
        Story alone = new Story(due, x -> {
            x.knot(0);
            x.knot(0);
            x.say(7, 9);
        });
        alone.none("21: no streets at all", x -> x.best(0, 0, 1));
    }

    private static void whereNothingAllowedLeads() {
        Story none = town.and(x -> x.allow(0));
        none.none("21: nothing is allowed", x -> x.best(0, 1, 1));
        Story straight = town.and(x -> x.allow(1));
        straight.none("21: straight is not the way", x -> x.best(0, 1, 3));
        due.same("21: straight is the way", straight.told().best(0, 1, 2), 14);
        Story end = full.and(x -> x.allow(256));
        end.none("21: a ring has no end", x -> x.best(0, 1, 1));
    }

    // ---- "(To itself: 0, nothing is SAID.)"

    private static void toItself() {
        for (int facing = 0; facing <= 3; facing++) {
            for (int knot : new int[] {0, 4, 9}) {
                WaysTold x = town.told();
                due.same("21: to itself, " + knot + " facing " + facing, x.best(knot, facing, knot), 0);
                due.said("21: nothing is said", x);
            }
        }
    }

    private static void toItselfByNothingAllowed() {
        WaysTold x = town.told();
        x.allow(0);
        due.same("21: to itself, nothing is allowed", x.best(4, 0, 4), 0);
        due.said("21: nothing is said then", x);
    }

    private static void toItselfInPlaceOfSixty() {
        WaysTold x = town.told();
        Nets.sayTimes(x, 79, MOST_SAID - 4);
        due.same("21: sixty are said", x.count(2), MOST_SAID);
        due.same("21: in place of sixty", x.best(4, 0, 4), 0);
        due.said("21: none of them", x);
    }

    // ---- "(as it ends, the facing not asked)"

    private static void asItEnds() {
        WaysTold x = Nets.line(3);
        x.allow(256);
        due.same("21: passing is not ending", x.best(0, 1, 1), NONE);
        due.same("21: ending is", x.best(0, 1, 2), 2);
        x.allow(256 + 4);
        due.same("21: to the end and back", x.best(0, 1, 1), 5);
        due.said("21: both", x, 80, 20);
    }

    /** Knot 1 can be reached by its exit 3, and by its exit 0. */
    private static void facingNotAsked() {
        for (int facing = 0; facing <= 3; facing++) {
            WaysTold x = Nets.knots(2);
            x.street(0, 1, 1, 3, 0);
            x.street(0, 2, 1, 0, 0);
            int[] wants = {2, 1, 1, 2};
            int[] said = {10, 0, 0, 30};
            due.same("21: facing " + facing, x.best(0, facing, 1), wants[facing]);
            due.said("21: facing " + facing, x, said[facing]);
        }
    }

    /** Whatever the facing, who ends at knot 2 is at no knot before or behind it. */
    private static void notAtTheNextKnot() {
        for (int in = 0; in <= 3; in++) {
            WaysTold x = Nets.knots(4);
            x.street(0, 1, 2, in, 0);
            due.same("21: in by " + in + ", to knot 1", x.best(0, 1, 1), NONE);
            due.same("21: in by " + in + ", to knot 3", x.best(0, 1, 3), NONE);
            due.same("21: in by " + in + ", to knot 2", x.best(0, 1, 2), 1);
        }
    }

    private static void bySayingsOfThirty() {
        WaysTold x = Nets.longRoad();
        x.allow(256);
        due.same("21: 30 streets to the end", x.best(1, 1, 23), 2);
        due.said("21: one saying", x, 80);
        due.same("21: 31 streets to the end", x.best(0, 1, 23), NONE);
        due.said("21: it stays", x, 80);
        x.allow(257);
        due.same("21: straight, and 30 streets", x.best(0, 1, 23), 3);
        due.said("21: two sayings", x, 0, 80);
    }

    private static void byEachNumber() {
        for (int number = 1; number <= 4; number++) {
            WaysTold x = Nets.grid(2, 4);
            by(x, 50 + number, 0, 3 + number);
            by(x, 40 + number, 4, number - 1);
        }
        for (int number = 1; number <= 9; number++) {
            WaysTold x = Nets.knots(2);
            x.street(0, 1, 1, 3, number);
            by(x, 70 + number, 0, 1);
            if (number <= 7) {
                x.sight(1, number);
                by(x, 60 + number, 0, 1);
            }
        }
    }

    private static void by(WaysTold x, int saying, int from, int to) {
        int kind = saying / 10;
        x.allow(1 << kind);
        x.price(kind, 50 - kind);
        due.same("21: by " + saying, x.best(from, 1, to), 50 - kind);
        due.said("21: by " + saying, x, saying);
    }

    // ---- "of equal ones the fewest SAYINGS, then as of a TELLING"

    private static void leastPriceFirst() {
        WaysTold x = Nets.line(4);
        x.price(8, 4);
        due.same("21: three of 1, not one of 4", x.best(0, 1, 3), 3);
        due.said("21: three", x, 0, 0, 0);
        Nets.priceAll(x, 50);
        x.allow(1);
        due.same("21: the dearest", x.best(0, 1, 3), 150);
    }

    private static void fewestNext() {
        WaysTold x = Nets.line(4);
        x.price(8, 3);
        due.same("21: three of 1 or one of 3", x.best(0, 1, 3), 3);
        due.said("21: one", x, 80);
        Nets.priceAll(x, 0);
        due.same("21: for nothing", x.best(0, 1, 3), 0);
        due.said("21: one again", x, 80);
    }

    /** Both ways round a square are two sayings of the same price. */
    private static void lessKindAtTheFirst() {
        WaysTold x = Nets.grid(2, 2);
        x.allow(15);
        for (int kind = 0; kind <= 3; kind++) {
            x.price(kind, 2);
        }
        int[][] rows = {{10, 10}, {0, 10}, {0, 30}, {20, 10}};
        for (int facing = 0; facing <= 3; facing++) {
            due.same("21: facing " + facing, x.best(0, facing, 3), 4);
            due.said("21: the less kind, facing " + facing, x, rows[facing]);
        }
    }

    private static void lessNumber() {
        WaysTold x = Nets.line(4);
        x.sight(1, 7);
        x.sight(2, 6);
        x.sight(3, 7);
        x.allow(64);
        due.same("21: two of until", x.best(0, 1, 3), 6);
        due.said("21: the less number first", x, 66, 67);
    }

    private static void firstAndLastKnot() {
        WaysTold x = Nets.line(24);
        due.same("21: from the first to the last", x.best(0, 1, 23), 2);
        due.same("21: from the last to the first", x.best(23, 3, 0), 2);
        x.allow(1);
        due.same("21: by 23 sayings", x.best(23, 3, 0), 23);
        due.same("21: 23 are said", x.count(2), 23);
        due.same("12: they lead there", x.walk(23, 3), 0);
    }

    private static void leavesAllElse() {
        WaysTold x = town.told();
        due.same("21: by right turns, which cost nothing", x.best(0, 1, 8), 0);
        due.routed("21: the route stays", x, 3, 2);
        due.same("21: the walk stays", x.walked(2), 3);
        due.same("21: what is kept stays", x.still(0), 1);
        due.same("21: what is allowed stays", x.count(5), 511 - 16);
    }

    // ---- "or more than 60 would be"

    /**
     * Streets at random, right turns alone, and one street only at the last knot: the way to that
     * knot is one, and in some net it is long enough.
     */
    private static void sixtyAndSixtyOne() {
        for (int seed = 1; seed < 1000; seed++) {
            int[] across = randomStreets(seed);
            int[] places = placesBefore(across, MOST_SAID + 2);
            if (places[MOST_SAID + 1] != NONE) {
                sixtyAndSixtyOneIn(across, places[MOST_SAID], places[MOST_SAID + 1]);
                return;
            }
        }
        due.same("21: a net with a long way", 0, 1);
    }

    private static void sixtyAndSixtyOneIn(int[] across, int near, int far) {
        Story rights = new Story(due, x -> {
            build(x, across);
            x.allow(2);
            x.say(8, 0);
        });
        rights.none("21: 61 would be", x -> x.best(far / 4, far % 4, 23));
        WaysTold x = rights.told();
        due.same("21: 60 are", x.best(near / 4, near % 4, 23), 120);
        due.same("21: 60 are said", x.count(2), MOST_SAID);
        due.same("21: all of them right", x.said(0) + x.said(MOST_SAID - 1), 20);
        due.same("12: they lead there", x.walk(near / 4, near % 4), 23);
        Story dearer = rights.and(y -> {
            for (int kind = 0; kind <= 8; kind++) {
                y.price(kind, kind == 1 ? 0 : 50);
            }
            y.allow(511);
        });
        dearer.none("21: 61 would be the cheapest", y -> y.best(far / 4, far % 4, 23));
    }

    private static void build(WaysTold x, int[] across) {
        for (int knot = 0; knot < 24; knot++) {
            x.knot(0);
        }
        for (int end = 0; end < 96; end++) {
            if (across[end] > end) {
                x.street(end / 4, end % 4, across[end] / 4, across[end] % 4, 0);
            }
        }
    }

    private static int[] randomStreets(int seed) {
        int[] across = new int[96];
        Arrays.fill(across, NONE);
        List<Integer> free = new ArrayList<>();
        for (int end = 0; end < 93; end++) {
            free.add(end);
        }
        long state = seed;
        while (free.size() > 1) {
            state = state * 6364136223846793005L + 1442695040888963407L;
            int b = free.remove((int) ((state >>> 33) % (free.size() - 1)) + 1);
            int a = free.remove(0);
            across[a] = b;
            across[b] = a;
        }
        return across;
    }

    /** The places (knot times 4 and facing) from which so many right turns lead to knot 23. */
    private static int[] placesBefore(int[] across, int many) {
        int[] places = new int[many];
        Arrays.fill(places, NONE);
        int in = 92;
        for (int i = 1; i < many; i++) {
            int out = across[in];
            if (out == NONE || out / 4 == 23) {
                break;
            }
            int facing = (out + 3) % 4;
            places[i] = out / 4 * 4 + facing;
            in = out / 4 * 4 + (facing + 2) % 4;
        }
        return places;
    }
}
