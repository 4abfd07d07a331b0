/** Promise 21: best. */
public final class BestTest {
    private static final int NONE = WaysTold.NONE;
    private static final Due due = new Due();

    public static void main(String[] args) {
        best();
        bestNone();
        bestTies();
        bestPasses();
        bestForNothing();
        due.end();
    }

    private static void best() {
        WaysTold x = Nets.grid(3, 3);
        due.same("21: best(0, 1, 8)", x.best(0, 1, 8), 5);
        due.said("21: it is said", x, 53, 0);
        due.same("21: it can be walked", x.walk(0, 1), 8);
        due.same("21: best(0, 0, 3)", x.best(0, 0, 3), 3);
        due.said("21: back", x, 20);
        due.same("21: to itself", x.best(4, 2, 4), 0);
        due.said("21: nothing", x);
        due.same("21: no route is made", x.routed(0), NONE);
        x.start(1, 1);
        x.go(1);
        x.best(0, 1, 8);
        due.routed("21: the route stays", x, 1);
    }

    private static void bestNone() {
        WaysTold x = Nets.line(3);
        x.knot(0);
        Nets.say(x, 44);
        due.same("21: no streets to it", x.best(0, 1, 3), NONE);
        x.allow(1);
        due.same("21: straight is no way back", x.best(2, 1, 0), NONE);
        due.said("21: what was said stays with none", x, 44);
        due.same("21: straight is the way", x.best(2, 3, 0), 2);
        x.allow(0);
        due.same("21: nothing is allowed", x.best(0, 1, 1), NONE);
        due.said("21: and stays again", x, 0, 0);
        due.same("21: to itself, nothing is allowed", x.best(0, 1, 0), 0);
    }

    private static void bestTies() {
        WaysTold x = Nets.line(3);
        due.same("21: straight twice or to the end", x.best(0, 1, 2), 2);
        due.said("21: the fewest", x, 80);
        x.price(8, 3);
        due.same("21: the least price", x.best(0, 1, 2), 2);
        due.said("21: before the fewest", x, 0, 0);
        WaysTold grid = Nets.grid(2, 2);
        grid.allow(15);
        for (int kind = 0; kind < 4; kind++) {
            grid.price(kind, 5);
        }
        due.same("21: two ways", grid.best(0, 1, 3), 10);
        due.said("21: the less kind first", grid, 0, 10);
        due.same("21: two ways, facing away", grid.best(0, 3, 3), 10);
        due.said("21: back first", grid, 20, 10);
        WaysTold sights = Nets.line(5);
        int[] shown = {0, 3, 2, 1, 3};
        for (int i = 0; i < shown.length; i++) {
            sights.sight(i, shown[i]);
        }
        sights.allow(64);
        due.same("21: until twice", sights.best(0, 1, 4), 6);
        due.said("21: the less number first", sights, 61, 63);
    }

    private static void bestPasses() {
        WaysTold x = Nets.line(3);
        x.allow(256 + 4);
        x.price(2, 1);
        due.same("21: passing it is not ending there", x.best(0, 1, 1), 3);
        due.said("21: to the end and back", x, 80, 20);
        WaysTold ring = Nets.ring(3);
        ring.allow(256);
        due.same("21: no end at all", ring.best(0, 1, 1), NONE);
    }

    private static void bestForNothing() {
        WaysTold x = Nets.grid(4, 6);
        for (int kind = 0; kind < 9; kind++) {
            x.price(kind, 0);
        }
        due.same("21: all for nothing", x.best(0, 1, 23), 0);
        due.said("21: three, the first one of the least kind", x, 0, 54, 43);
        x.price(1, 50);
        x.price(5, 50);
        due.same("21: without right", x.best(0, 1, 23), 0);
        due.same("21: it ends there", x.walk(0, 1), 23);
    }
}
