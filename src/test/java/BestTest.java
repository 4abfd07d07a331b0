/** Promise 21: best. */
public final class BestTest {
    private static final int NONE = WaysTold.NONE;
    private static final int[] ODD = {-1, Integer.MIN_VALUE, Integer.MAX_VALUE};
    private static final Due due = new Due();

    public static void main(String[] args) {
        best();
        bestRefused();
        bestNone();
        bestTies();
        bestPasses();
        bestForNothing();
        bestOfSixty();
        due.end();
    }

    private static void best() {
        WaysTold x = Nets.grid(3, 3);
        due.same("21: best(0, 1, 8)", x.best(0, 1, 8), 5);
        due.said("21: it is said", x, 53, 0);
        due.same("21: it can be walked", x.walk(0, 1), 8);
        due.same("21: best(0, 0, 3)", x.best(0, 0, 3), 3);
        due.said("21: back", x, 20);
        due.same("21: to itself", x.best(4, 2, 4), 0);
        due.said("21: nothing", x);
        due.same("21: no route is made", x.routed(0), NONE);
        x.start(1, 1);
        x.go(1);
        x.best(0, 1, 8);
        due.routed("21: the route stays", x, 1);
    }

    private static void bestRefused() {
        WaysTold x = Nets.grid(3, 3);
        Nets.say(x, 44);
        due.same("21: knot 9", x.best(9, 0, 0), NONE);
        due.same("21: facing 4", x.best(0, 4, 0), NONE);
        due.same("21: to 9", x.best(0, 0, 9), NONE);
        for (int odd : ODD) {
            due.same("21: odd knot", x.best(odd, 0, 0), NONE);
            due.same("21: odd facing", x.best(0, odd, 0), NONE);
            due.same("21: to an odd knot", x.best(0, 0, odd), NONE);
        }
        due.said("21: what was said stays", x, 44);
    }

    private static void bestNone() {
        WaysTold x = Nets.line(3);
        x.knot(0);
        Nets.say(x, 44);
        due.same("21: no streets to it", x.best(0, 1, 3), NONE);
        x.allow(1);
        due.same("21: straight is no way back", x.best(2, 1, 0), NONE);
        due.said("21: what was said stays with none", x, 44);
        due.same("21: straight is the way", x.best(2, 3, 0), 2);
        x.allow(0);
        due.same("21: nothing is allowed", x.best(0, 1, 1), NONE);
        due.said("21: and stays again", x, 0, 0);
        due.same("21: to itself, nothing is allowed", x.best(0, 1, 0), 0);
    }

    private static void bestTies() {
        WaysTold x = Nets.line(3);
        due.same("21: straight twice or to the end", x.best(0, 1, 2), 2);
        due.said("21: the fewest", x, 80);
        x.price(8, 3);
        due.same("21: the least price", x.best(0, 1, 2), 2);
        due.said("21: before the fewest", x, 0, 0);
        WaysTold grid = Nets.grid(2, 2);
        grid.allow(15);
        for (int kind = 0; kind < 4; kind++) {
            grid.price(kind, 5);
        }
        due.same("21: two ways", grid.best(0, 1, 3), 10);
        due.said("21: the less kind first", grid, 0, 10);
        due.same("21: two ways, facing away", grid.best(0, 3, 3), 10);
        due.said("21: back first", grid, 20, 10);
        WaysTold sights = Nets.line(5);
        int[] shown = {0, 3, 2, 1, 3};
        for (int i = 0; i < shown.length; i++) {
            sights.sight(i, shown[i]);
        }
        sights.allow(64);
        due.same("21: until twice", sights.best(0, 1, 4), 6);
        due.said("21: the less number first", sights, 61, 63);
    }

    private static void bestPasses() {
        WaysTold x = Nets.line(3);
        x.allow(256 + 4);
        x.price(2, 1);
        due.same("21: passing it is not ending there", x.best(0, 1, 1), 3);
        due.said("21: to the end and back", x, 80, 20);
        WaysTold ring = Nets.ring(3);
        ring.allow(256);
        due.same("21: no end at all", ring.best(0, 1, 1), NONE);
    }

    private static void bestForNothing() {
        WaysTold x = Nets.grid(4, 6);
        for (int kind = 0; kind < 9; kind++) {
            x.price(kind, 0);
        }
        due.same("21: all for nothing", x.best(0, 1, 23), 0);
        due.said("21: three, the first one of the least kind", x, 0, 54, 43);
        x.price(1, 50);
        x.price(5, 50);
        due.same("21: without right", x.best(0, 1, 23), 0);
        due.same("21: it ends there", x.walk(0, 1), 23);
    }

    /**
     * Streets at random, right turns alone, and one street only at the last knot: the way to that
     * knot is one, and in some net it is long enough.
     */
    private static void bestOfSixty() {
        for (int seed = 1; seed < 1000; seed++) {
            int[] across = randomStreets(seed);
            int[] places = placesBefore(across, 62);
            if (places[61] != NONE) {
                bestOfSixtyIn(across, places);
                return;
            }
        }
        due.same("21: a net with a long way", 0, 1);
    }

    private static void bestOfSixtyIn(int[] across, int[] places) {
        WaysTold x = Nets.knots(24);
        for (int end = 0; end < 96; end++) {
            if (across[end] > end) {
                x.street(end / 4, end % 4, across[end] / 4, across[end] % 4, 0);
            }
        }
        x.allow(2);
        x.say(8, 0);
        due.same("21: 61 would be", x.best(places[61] / 4, places[61] % 4, 23), NONE);
        due.said("21: what was said stays", x, 80);
        due.same("21: 60 are", x.best(places[60] / 4, places[60] % 4, 23), 120);
        due.same("21: 60 are said", x.count(2), 60);
        due.same("21: they lead there", x.walk(places[60] / 4, places[60] % 4), 23);
        x.price(1, 0);
        for (int kind = 2; kind < 9; kind++) {
            x.price(kind, 50);
        }
        x.price(0, 50);
        x.allow(511);
        due.same("21: 61 would be the cheapest", x.best(places[61] / 4, places[61] % 4, 23), NONE);
    }

    private static int[] randomStreets(int seed) {
        int[] across = new int[96];
        java.util.Arrays.fill(across, NONE);
        java.util.List<Integer> free = new java.util.ArrayList<>();
        for (int end = 0; end < 93; end++) {
            free.add(end);
        }
        long state = seed;
        while (free.size() > 1) {
            state = state * 6364136223846793005L + 1442695040888963407L;
            int b = free.remove((int) ((state >>> 33) % (free.size() - 1)) + 1);
            int a = free.remove(0);
            across[a] = b;
            across[b] = a;
        }
        return across;
    }

    /** The places (knot times 4 and facing) from which so many right turns lead to knot 23. */
    private static int[] placesBefore(int[] across, int many) {
        int[] places = new int[many];
        java.util.Arrays.fill(places, NONE);
        int in = 92;
        for (int i = 1; i < many; i++) {
            int out = across[in];
            if (out == NONE || out / 4 == 23) {
                break;
            }
            int facing = (out + 3) % 4;
            places[i] = out / 4 * 4 + facing;
            in = out / 4 * 4 + (facing + 2) % 4;
        }
        return places;
    }
}
