/** All promises: long runs of calls, each answered by the class and by PlainModel alike. */
public final class ModelTest {
    private static final int RUNS = 400;
    private static final int MOST_CALLS = 512;
    // A round asks for all that is said, and some calls more.
    private static final int MOST_IN_A_ROUND = 80;
    private static final Due due = new Due();

    private long state;
    private final int run;
    private final WaysTold x = new WaysTold();
    private final PlainModel model = new PlainModel();
    private final int[] allowedOnes = {511, 511, 511, 15, 510, 496, 64 + 4, 128 + 2, 2, 10, 256 + 6};

    private ModelTest(int run) {
        this.run = run;
        this.state = run * 7919L + 17;
    }

    public static void main(String[] args) {
        for (int run = 0; run < RUNS; run++) {
            new ModelTest(run).calls();
        }
        due.end();
    }

    /** 0 .. most, from a row of numbers that is the same each time. */
    private int any(int most) {
        state = state * 6364136223846793005L + 1442695040888963407L;
        return (int) ((state >>> 33) % (most + 1));
    }

    /** least .. most, now and then one beyond. */
    private int near(int least, int most) {
        if (any(19) == 0) {
            int[] beyond = Edges.beyond(least, most);
            return beyond[any(beyond.length - 1)];
        }
        return least + any(Math.max(0, most - least));
    }

    private int nearKnot() {
        return near(0, model.count(0) - 1);
    }

    private void same(String call, int got, int want) {
        due.same("run " + run + ": " + call, got, want);
    }

    private void same(String call, boolean got, int want) {
        same(call, got ? 1 : 0, want);
    }

    private void calls() {
        int made = build();
        while (made <= MOST_CALLS - MOST_IN_A_ROUND) {
            int what = any(99);
            made += what < 16 ? changeNet() : what < 30 ? changeSayings() : what < 55 ? walkAbout()
                : what < 85 ? routeAbout() : keepAbout();
        }
    }

    private int build() {
        int knots = 1 + any(23);
        for (int i = 0; i < knots; i++) {
            int sight = any(1) == 0 ? 0 : any(7);
            same("knot", x.knot(sight), model.knot(sight));
        }
        int made = knots;
        int columns = 1 + any(5);
        boolean asGrid = any(2) != 0;
        int names = any(9);
        for (int k = 0; asGrid && k < knots; k++) {
            if (k % columns + 1 < columns && any(9) != 0) {
                made += street(k, 1, k + 1, 3, any(names));
            }
            if (any(9) != 0) {
                made += street(k, 2, k + columns, 0, any(names));
            }
        }
        for (int i = any(asGrid ? 6 : 70); i > 0; i--) {
            made += street(any(knots), any(3), any(knots), any(3), any(names));
        }
        return made;
    }

    private int street(int a, int exitA, int b, int exitB, int name) {
        same("street", x.street(a, exitA, b, exitB, name), model.street(a, exitA, b, exitB, name));
        return 1;
    }

    private int changeNet() {
        int a = nearKnot();
        int b = nearKnot();
        int e = near(0, 3);
        int f = near(0, 3);
        switch (any(7)) {
            case 0: {
                int sight = near(0, 7);
                same("knot", x.knot(sight), model.knot(sight));
                return 1;
            }
            case 1:
            case 2:
                return street(a, e, b, f, near(0, 9));
            case 3:
                same("close", x.close(a, e), model.close(a, e));
                return 1;
            case 4: {
                int sight = near(0, 7);
                same("sight", x.sight(a, sight), model.sight(a, sight));
                return 1;
            }
            case 5: {
                int kind = near(0, 8);
                int v = any(2) == 0 ? near(0, 50) : any(5);
                same("price", x.price(kind, v), model.price(kind, v));
                return 1;
            }
            case 6: {
                int bits = any(3) == 0 ? near(0, 511) : allowedOnes[any(allowedOnes.length - 1)];
                same("allow", x.allow(bits), model.allow(bits));
                return 1;
            }
            default: {
                int what = near(0, 3);
                same("look", x.look(a, e, what), model.look(a, e, what));
                return 1;
            }
        }
    }

    private int changeSayings() {
        if (any(9) == 0) {
            same("hush", x.hush(), model.hush());
            return 1;
        }
        int kind = near(0, 8);
        int number = kind < 4 || kind == 8 ? near(0, 0) : near(1, kind == 6 ? 7 : kind == 7 ? 9 : 4);
        same("say", x.say(kind, number), model.say(kind, number));
        return 1;
    }

    private int walkAbout() {
        int a = nearKnot();
        int f = near(0, 3);
        int to = nearKnot();
        if (any(1) == 0) {
            same("best(" + a + ", " + f + ", " + to + ")", x.best(a, f, to), model.best(a, f, to));
            return 1 + allSaid();
        }
        same("walk", x.walk(a, f), model.walk(a, f));
        for (int what = 0; what < 3; what++) {
            same("walked", x.walked(what), model.walked(what));
        }
        int last = 10 + Math.min(200, Math.max(0, model.walked(2)));
        for (int i = 0; i < 3; i++) {
            int what = near(3, last);
            same("walked(" + what + ")", x.walked(what), model.walked(what));
        }
        return 7;
    }

    private int routeAbout() {
        int a = nearKnot();
        int f = near(0, 3);
        switch (any(5)) {
            case 0:
                same("start", x.start(a, f), model.start(a, f));
                return 1;
            case 1:
                same("route", x.route(a), model.route(a));
                return 1 + allRouted();
            case 2:
                same("tell", x.tell(), model.tell());
                same("holds", x.holds(), model.holds());
                return 2 + allSaid() + allSlips();
            default:
                return goOn();
        }
    }

    private int goOn() {
        int many = 1 + any(9);
        for (int i = 0; i < many; i++) {
            int facing = model.routed(2);
            int exit = any(2) == 0 || facing < 0 ? near(0, 3) : facing;
            same("go", x.go(exit), model.go(exit));
        }
        return many;
    }

    private int keepAbout() {
        switch (any(5)) {
            case 0:
                same("keep", x.keep(), model.keep());
                return 1;
            case 1:
                return allSlips();
            case 2:
                same("holds", x.holds(), model.holds());
                return 1;
            case 3: {
                int what = near(0, 5);
                same("count(" + what + ")", x.count(what), model.count(what));
                return 1;
            }
            default: {
                int i = near(0, model.count(3));
                same("still(" + i + ")", x.still(i), model.still(i));
                return 1;
            }
        }
    }

    private int allSaid() {
        int many = model.count(2);
        for (int i = 0; i <= many; i++) {
            same("said(" + i + ")", x.said(i), model.said(i));
        }
        same("count(4)", x.count(4), model.count(4));
        return many + 2;
    }

    private int allSlips() {
        int many = Math.min(5, model.count(2));
        for (int i = 0; i <= many; i++) {
            same("slip(" + i + ")", x.slip(i), model.slip(i));
        }
        return many + 1;
    }

    private int allRouted() {
        int many = Math.max(0, model.routed(0));
        for (int what = 0; what < 3; what++) {
            same("routed(" + what + ")", x.routed(what), model.routed(what));
        }
        for (int i = 0; i <= many; i++) {
            same("routed exit " + i, x.routed(10 + i), model.routed(10 + i));
        }
        return many + 4;
    }
}
