import java.util.ArrayList;
import java.util.Comparator;
import java.util.HashMap;
import java.util.List;
import java.util.Map;
import java.util.TreeSet;

/**
 * The document once more, written by other means (whole rows that are compared as a whole), so
 * that a fault in the class is not likely to be here as well.
 */
final class PlainModel {
    private static final int NONE = -1;

    private record End(int knot, int exit) { }

    private record Place(int knot, int facing) { }

    private record Saying(int kind, int number) { }

    private record Walk(Place at, List<Integer> exits, int lost) { }

    private record Route(Place from, List<Integer> exits) { }

    private record Kept(Route route, List<Saying> said) { }

    private record Told(Place at, List<Saying> row) { }

    private final List<Integer> sights = new ArrayList<>();
    private final Map<End, End> streets = new HashMap<>();
    private final Map<End, Integer> names = new HashMap<>();
    private final int[] prices = {1, 2, 3, 2, 4, 4, 3, 3, 2};
    private int allowed = 511;
    private List<Saying> said = new ArrayList<>();
    private Walk latest = null;
    private Route route = null;
    private final List<Kept> kept = new ArrayList<>();

    private static boolean in(int v, int least, int most) {
        return v >= least && v <= most;
    }

    private boolean isKnot(int knot) {
        return in(knot, 0, sights.size() - 1);
    }

    // ---- the net

    int knot(int sight) {
        if (!in(sight, 0, 7) || sights.size() == 24) {
            return NONE;
        }
        sights.add(sight);
        return sights.size() - 1;
    }

    int street(int a, int exitA, int b, int exitB, int name) {
        End one = new End(a, exitA);
        End two = new End(b, exitB);
        boolean exist = isKnot(a) && isKnot(b) && in(exitA, 0, 3) && in(exitB, 0, 3);
        if (!exist || !in(name, 0, 9) || one.equals(two)
            || streets.containsKey(one) || streets.containsKey(two)) {
            return 0;
        }
        streets.put(one, two);
        streets.put(two, one);
        names.put(one, name);
        names.put(two, name);
        return 1;
    }

    int close(int knot, int exit) {
        End one = new End(knot, exit);
        if (!streets.containsKey(one)) {
            return 0;
        }
        End two = streets.get(one);
        if (route != null) {
            Place at = route.from;
            boolean along = false;
            for (int e : route.exits) {
                End out = new End(at.knot, e);
                along = along || out.equals(one) || out.equals(two);
                at = step(at, e);
            }
            if (along) {
                route = null;
            }
        }
        streets.remove(one);
        streets.remove(two);
        return 1;
    }

    int sight(int knot, int sight) {
        if (!isKnot(knot) || !in(sight, 0, 7)) {
            return 0;
        }
        sights.set(knot, sight);
        return 1;
    }

    int look(int knot, int exit, int what) {
        if (what == 3) {
            return isKnot(knot) ? sights.get(knot) : NONE;
        }
        End one = new End(knot, exit);
        End two = streets.get(one);
        if (two == null) {
            return NONE;
        }
        return what == 0 ? two.knot : what == 1 ? (two.exit + 2) % 4 : what == 2 ? names.get(one) : NONE;
    }

    int price(int kind, int v) {
        if (!in(kind, 0, 8) || !in(v, 0, 50)) {
            return NONE;
        }
        int was = prices[kind];
        prices[kind] = v;
        return was;
    }

    int allow(int bits) {
        if (!in(bits, 0, 511)) {
            return NONE;
        }
        int was = allowed;
        allowed = bits;
        return was;
    }

    // ---- what is said, a walker

    private static List<Saying> allSayings() {
        List<Saying> all = new ArrayList<>();
        for (int kind = 0; kind <= 8; kind++) {
            for (int number = 0; number <= 9; number++) {
                if (isSaying(kind, number)) {
                    all.add(new Saying(kind, number));
                }
            }
        }
        return all;
    }

    private static boolean isSaying(int kind, int number) {
        return switch (kind) {
            case 0, 1, 2, 3, 8 -> number == 0;
            case 4, 5 -> in(number, 1, 4);
            case 6 -> in(number, 1, 7);
            case 7 -> in(number, 1, 9);
            default -> false;
        };
    }

    int say(int kind, int number) {
        if (!isSaying(kind, number) || said.size() == 60) {
            return NONE;
        }
        said.add(new Saying(kind, number));
        return said.size();
    }

    int hush() {
        int was = said.size();
        said = new ArrayList<>();
        return was;
    }

    int said(int i) {
        return in(i, 0, said.size() - 1) ? said.get(i).kind * 10 + said.get(i).number : NONE;
    }

    private Place step(Place at, int exit) {
        End two = streets.get(new End(at.knot, exit % 4));
        return two == null ? null : new Place(two.knot, (two.exit + 2) % 4);
    }

    /**
     * The exits that a saying asks for if streets never end at 30, as far as they can be gone; a
     * last NONE: lost there.
     */
    private List<Integer> asked(Place from, Saying s, boolean slips) {
        List<Integer> exits = new ArrayList<>();
        Place at = from;
        int met = 0;
        int wanted = s.number + (slips ? 1 : 0);
        while (exits.size() < 40) {
            int exit = at.facing;
            boolean last = false;
            if (s.kind < 4) {
                int turn = slips ? 4 - s.kind : s.kind;
                exit = (at.facing + turn) % 4;
                last = true;
            } else if (s.kind == 4 || s.kind == 5) {
                int side = (at.facing + (s.kind == 4 ? 3 : 1)) % 4;
                met += step(at, side) != null ? 1 : 0;
                last = met == wanted;
                exit = last ? side : exit;
            } else if (s.kind == 7) {
                List<Integer> fit = new ArrayList<>();
                for (int e = 0; e < 4; e++) {
                    End end = new End(at.knot, e);
                    if (e != (at.facing + 2) % 4 && streets.containsKey(end) && names.get(end) == s.number) {
                        fit.add(e);
                    }
                }
                exit = fit.size() == 1 ? fit.get(0) : NONE;
                last = true;
            }
            Place next = exit == NONE ? null : step(at, exit);
            if (next == null) {
                exits.add(NONE);
                return exits;
            }
            exits.add(exit);
            at = next;
            if (s.kind == 6 && sights.get(at.knot) == s.number) {
                met++;
                last = met == (slips ? 2 : 1);
            }
            if (s.kind == 8) {
                last = step(at, at.facing) == null;
            }
            if (last) {
                return exits;
            }
        }
        return exits;
    }

    private Walk walkFrom(Place from, List<Saying> row, int slipAt) {
        List<Integer> gone = new ArrayList<>();
        Place at = from;
        for (int i = 0; i < row.size(); i++) {
            List<Integer> exits = asked(at, row.get(i), i == slipAt);
            for (int n = 0; n < exits.size(); n++) {
                if (n == 30 || exits.get(n) == NONE) {
                    return new Walk(at, gone, i);
                }
                gone.add(exits.get(n));
                at = step(at, exits.get(n));
            }
        }
        return new Walk(at, gone, NONE);
    }

    int walk(int knot, int facing) {
        if (!isKnot(knot) || !in(facing, 0, 3)) {
            return NONE;
        }
        latest = walkFrom(new Place(knot, facing), said, NONE);
        return latest.lost == NONE ? latest.at.knot : -2 - latest.lost;
    }

    int walked(int what) {
        if (latest == null) {
            return NONE;
        }
        int many = latest.exits.size();
        if (in(what, 0, 2)) {
            return what == 0 ? latest.at.knot : what == 1 ? latest.at.facing : many;
        }
        return in(what, 10, 9 + Math.min(200, many)) ? latest.exits.get(what - 10) : NONE;
    }

    // ---- routes

    int start(int knot, int facing) {
        if (!isKnot(knot) || !in(facing, 0, 3)) {
            return 0;
        }
        route = new Route(new Place(knot, facing), new ArrayList<>());
        return 1;
    }

    private Place along(Route r) {
        Place at = r.from;
        for (int e : r.exits) {
            at = at == null ? null : step(at, e);
        }
        return at;
    }

    int go(int exit) {
        if (route == null || !in(exit, 0, 3) || step(along(route), exit) == null
            || route.exits.size() == 30) {
            return NONE;
        }
        route.exits.add(exit);
        return route.exits.size();
    }

    /** All shortest ways are laid out one street longer at a time, the less exits first. */
    int route(int knot) {
        if (route == null || !isKnot(knot)) {
            return NONE;
        }
        List<Route> ways = new ArrayList<>();
        ways.add(new Route(route.from, new ArrayList<>()));
        List<Integer> seen = new ArrayList<>();
        for (int i = 0; i < ways.size(); i++) {
            Route way = ways.get(i);
            Place at = along(way);
            if (at.knot == knot) {
                route = way;
                return way.exits.size();
            }
            if (seen.contains(at.knot)) {
                continue;
            }
            seen.add(at.knot);
            for (int e = 0; e < 4; e++) {
                if (step(at, e) != null) {
                    List<Integer> more = new ArrayList<>(way.exits);
                    more.add(e);
                    ways.add(new Route(route.from, more));
                }
            }
        }
        return NONE;
    }

    int routed(int what) {
        if (route == null) {
            return NONE;
        }
        if (in(what, 0, 2)) {
            return what == 0 ? route.exits.size() : what == 1 ? along(route).knot : along(route).facing;
        }
        return in(what, 10, 9 + route.exits.size()) ? route.exits.get(what - 10) : NONE;
    }

    private int priceOf(List<Saying> row) {
        int sum = 0;
        for (Saying s : row) {
            sum += prices[s.kind];
        }
        return sum;
    }

    private int compareRows(List<Saying> a, List<Saying> b) {
        int byPrice = Integer.compare(priceOf(a), priceOf(b));
        if (byPrice != 0) {
            return byPrice;
        }
        if (a.size() != b.size()) {
            return Integer.compare(a.size(), b.size());
        }
        for (int i = 0; i < a.size(); i++) {
            Saying s = a.get(i);
            Saying t = b.get(i);
            if (s.kind != t.kind) {
                return Integer.compare(s.kind, t.kind);
            }
            if (s.number != t.number) {
                return Integer.compare(s.number, t.number);
            }
        }
        return 0;
    }

    private static List<Saying> with(List<Saying> row, Saying s) {
        List<Saying> more = new ArrayList<>(row);
        more.add(s);
        return more;
    }

    int tell() {
        if (route == null) {
            return NONE;
        }
        int many = route.exits.size();
        List<List<Saying>> rows = new ArrayList<>();
        for (int i = 0; i <= many; i++) {
            rows.add(null);
        }
        rows.set(0, new ArrayList<>());
        for (int i = 0; i < many; i++) {
            if (rows.get(i) == null) {
                continue;
            }
            Place at = along(new Route(route.from, route.exits.subList(0, i)));
            for (Saying s : allSayings()) {
                Walk w = walkFrom(at, List.of(s), NONE);
                int end = i + w.exits.size();
                boolean fits = (allowed & 1 << s.kind) != 0 && w.lost == NONE && end <= many
                    && w.exits.equals(route.exits.subList(i, end));
                if (!fits) {
                    continue;
                }
                List<Saying> row = with(rows.get(i), s);
                if (rows.get(end) == null || compareRows(row, rows.get(end)) < 0) {
                    rows.set(end, row);
                }
            }
        }
        if (rows.get(many) == null) {
            return NONE;
        }
        said = rows.get(many);
        return priceOf(said);
    }

    private int holdsOf(Route r, List<Saying> row) {
        Walk w = walkFrom(r.from, row, NONE);
        return along(r) != null && w.lost == NONE && w.exits.equals(r.exits) ? 1 : 0;
    }

    int holds() {
        return route == null ? NONE : holdsOf(route, said);
    }

    int slip(int i) {
        if (route == null || !in(i, 0, said.size() - 1)) {
            return NONE;
        }
        int kind = said.get(i).kind;
        if (kind == 0 || kind == 2 || kind == 7 || kind == 8) {
            return NONE;
        }
        Walk w = walkFrom(route.from, said, i);
        return w.lost != NONE ? -2 - w.lost : w.at.knot == along(route).knot ? 1 : 0;
    }

    int best(int knot, int facing, int to) {
        if (!isKnot(knot) || !in(facing, 0, 3) || !isKnot(to)) {
            return NONE;
        }
        Comparator<Told> order = (a, b) -> compareRows(a.row, b.row);
        TreeSet<Told> open = new TreeSet<>(order);
        List<Place> done = new ArrayList<>();
        open.add(new Told(new Place(knot, facing), new ArrayList<>()));
        while (!open.isEmpty()) {
            Told told = open.pollFirst();
            if (told.at.knot == to) {
                if (told.row.size() > 60) {
                    return NONE;
                }
                said = told.row;
                return priceOf(said);
            }
            if (done.contains(told.at)) {
                continue;
            }
            done.add(told.at);
            for (Saying s : allSayings()) {
                Walk w = walkFrom(told.at, List.of(s), NONE);
                if ((allowed & 1 << s.kind) != 0 && w.lost == NONE && !done.contains(w.at)) {
                    open.add(new Told(w.at, with(told.row, s)));
                }
            }
        }
        return NONE;
    }

    // ---- kept

    int keep() {
        if (route == null || kept.size() == 8) {
            return NONE;
        }
        kept.add(new Kept(new Route(route.from, new ArrayList<>(route.exits)), new ArrayList<>(said)));
        return kept.size() - 1;
    }

    int still(int i) {
        return in(i, 0, kept.size() - 1) ? holdsOf(kept.get(i).route, kept.get(i).said) : NONE;
    }

    int count(int what) {
        return switch (what) {
            case 0 -> sights.size();
            case 1 -> streets.size() / 2;
            case 2 -> said.size();
            case 3 -> kept.size();
            case 4 -> priceOf(said);
            case 5 -> allowed;
            default -> NONE;
        };
    }
}
