import java.util.ArrayList;
import java.util.List;
import java.util.function.Consumer;
import java.util.function.Predicate;
import java.util.function.ToIntFunction;

/**
 * Calls that bring a new object into some state. They are told again for each look at it: an
 * object to which a refused call was put must look like one to which it was not, and one object
 * is good for 512 calls only, so each part of the picture is taken of an object of its own.
 */
final class Story {
    private static final int PARTS = 8;

    private final Due due;
    private final Consumer<WaysTold> calls;
    private final List<List<String>> untouched = new ArrayList<>();

    Story(Due due, Consumer<WaysTold> calls) {
        this.due = due;
        this.calls = calls;
        for (int part = 0; part < PARTS; part++) {
            untouched.add(picture(told(), part));
        }
    }

    /** A new object in this state. */
    WaysTold told() {
        WaysTold x = new WaysTold();
        calls.accept(x);
        return x;
    }

    /** The same state, and some calls more. */
    Story and(Consumer<WaysTold> more) {
        return new Story(due, calls.andThen(more));
    }

    /** The call answers NONE, and changes nothing. */
    void none(String call, ToIntFunction<WaysTold> asked) {
        leaves(call, asked, WaysTold.NONE);
    }

    /** The call answers false, and changes nothing. */
    void no(String call, Predicate<WaysTold> asked) {
        leaves(call, x -> asked.test(x) ? 1 : 0, 0);
    }

    /** The call answers what is wanted, and changes nothing. */
    void leaves(String call, ToIntFunction<WaysTold> asked, int want) {
        for (int part = 0; part < PARTS; part++) {
            WaysTold x = told();
            due.same(call, asked.applyAsInt(x), want);
            sameRows(call + " changes nothing", picture(x, part), untouched.get(part));
        }
    }

    private void sameRows(String call, List<String> got, List<String> want) {
        due.same(call + ", rows", got.size(), want.size());
        for (int i = 0; i < Math.min(got.size(), want.size()); i++) {
            due.text(call, got.get(i), want.get(i));
        }
    }

    private static List<String> picture(WaysTold x, int part) {
        List<String> rows = new ArrayList<>();
        switch (part) {
            case 0 -> net(x, rows);
            case 1 -> prices(x, rows);
            case 2 -> said(x, rows);
            case 3 -> walked(x, rows);
            case 4 -> routed(x, rows);
            case 5 -> tellings(x, rows);
            case 6 -> routes(x, rows);
            default -> kept(x, rows);
        }
        return rows;
    }

    private static void net(WaysTold x, List<String> rows) {
        rows.add("count(0) " + x.count(0));
        rows.add("count(1) " + x.count(1));
        for (int knot = 0; knot < x.count(0); knot++) {
            rows.add("sight of " + knot + ": " + x.look(knot, 0, 3));
            for (int exit = 0; exit < 4; exit++) {
                String end = "exit " + exit + " of " + knot + ": ";
                rows.add(end + x.look(knot, exit, 0) + " " + x.look(knot, exit, 1)
                    + " " + x.look(knot, exit, 2));
            }
        }
    }

    private static void prices(WaysTold x, List<String> rows) {
        for (int what = 2; what <= 5; what++) {
            rows.add("count(" + what + ") " + x.count(what));
        }
        for (int kind = 0; kind < 9; kind++) {
            rows.add("price of " + kind + ": " + x.price(kind, 0));
        }
        rows.add("allowed " + x.allow(0));
    }

    private static void said(WaysTold x, List<String> rows) {
        for (int i = 0; i <= 60; i++) {
            rows.add("said(" + i + ") " + x.said(i) + ", slip " + x.slip(i));
        }
    }

    private static void walked(WaysTold x, List<String> rows) {
        for (int what = 0; what <= 210; what++) {
            rows.add("walked(" + what + ") " + x.walked(what));
        }
    }

    private static void routed(WaysTold x, List<String> rows) {
        for (int what = 0; what <= 40; what++) {
            rows.add("routed(" + what + ") " + x.routed(what));
        }
        rows.add("holds() " + x.holds());
    }

    private static void tellings(WaysTold x, List<String> rows) {
        rows.add("tell() " + x.tell());
        for (int i = 0; i <= x.count(2); i++) {
            rows.add("told " + i + ": " + x.said(i));
        }
    }

    /** Where the route began shows in the routes from there. */
    private static void routes(WaysTold x, List<String> rows) {
        for (int knot = 0; knot < 24; knot++) {
            rows.add("route(" + knot + ") " + x.route(knot) + ", its facing " + x.routed(2)
                + ", its first exit " + x.routed(10));
        }
    }

    /** What was kept shows in which streets' end it does not outlast. */
    private static void kept(WaysTold x, List<String> rows) {
        addStill(x, rows, 8);
        int many = x.count(3);
        for (int knot = 0; many > 0 && knot < x.count(0); knot++) {
            for (int exit = 0; exit < 4; exit++) {
                if (x.close(knot, exit)) {
                    rows.add("without exit " + exit + " of " + knot);
                    addStill(x, rows, many - 1);
                }
            }
        }
    }

    private static void addStill(WaysTold x, List<String> rows, int last) {
        for (int i = 0; i <= last; i++) {
            rows.add("still(" + i + ") " + x.still(i));
        }
    }
}
