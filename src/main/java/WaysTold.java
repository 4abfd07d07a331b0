/**
 * Ways told in words: a net of knots and streets, routes along it, and the sayings by which a
 * stranger walks them. Calls that are refused answer NONE, or false, and change nothing.
 */
public final class WaysTold {
    public static final int NONE = -1;

    private static final int MOST_KNOTS = 24;
    private static final int EXITS = 4;
    private static final int MOST_ENDS = MOST_KNOTS * EXITS;
    private static final int MOST_SIGHT = 7;
    private static final int MOST_NAME = 9;
    private static final int MOST_PRICE = 50;
    private static final int MOST_SAID = 60;
    private static final int MOST_ROUTED = 30;
    private static final int MOST_BY_ONE_SAYING = 30;
    private static final int MOST_WALKED_TOLD = 200;
    private static final int MOST_KEPT = 8;
    private static final int FIRST_EXIT_ASKED = 10;

    private static final int STRAIGHT = 0;
    private static final int RIGHT = 1;
    private static final int BACK = 2;
    private static final int LEFT = 3;
    private static final int NTH_LEFT = 4;
    private static final int NTH_RIGHT = 5;
    private static final int UNTIL = 6;
    private static final int NAMED = 7;
    private static final int TO_THE_END = 8;
    private static final int KINDS = 9;
    private static final int ALL_KINDS = 511;

    private static final int[] FIRST_PRICES = {1, 2, 3, 2, 4, 4, 3, 3, 2};
    private static final int[] LEAST_NUMBERS = {0, 0, 0, 0, 1, 1, 1, 1, 0};
    private static final int[] MOST_NUMBERS = {0, 0, 0, 0, 4, 4, 7, 9, 0};

    // Every saying there is, as KIND times 10 and NUMBER. The order is the one that decides
    // between equally good rows, so the first that fits is always the one to take.
    private static final int[] SAYINGS = {
        0, 10, 20, 30,
        41, 42, 43, 44,
        51, 52, 53, 54,
        61, 62, 63, 64, 65, 66, 67,
        71, 72, 73, 74, 75, 76, 77, 78, 79,
        80
    };

    private final Net net = new Net();
    private final int[] prices = new int[KINDS];
    private int allowed = ALL_KINDS;
    private final Row sayings = new Row(MOST_SAID);
    private final Walker latest = new Walker(net);
    private boolean hasLatest = false;
    // Calls other than walk() send this one, since walked() tells of walk() alone.
    private final Walker scout = new Walker(net);
    private final Way way = new Way();
    private final Chart chart = new Chart();
    private final Kept[] keptOnes = new Kept[MOST_KEPT];
    private int keptCount = 0;

    public WaysTold() {
        System.arraycopy(FIRST_PRICES, 0, prices, 0, KINDS);
    }

    // ---- the net

    public int knot(int sight) {
        return isSight(sight) ? net.addKnot(sight) : NONE;
    }

    public boolean street(int a, int exitA, int b, int exitB, int name) {
        if (name < 0 || name > MOST_NAME) {
            return false;
        }
        if (!net.isFree(a, exitA) || !net.isFree(b, exitB)) {
            return false;
        }
        return net.join(placeOf(a, exitA), placeOf(b, exitB), name);
    }

    public boolean close(int knot, int exit) {
        int other = net.across(knot, exit);
        if (other == NONE) {
            return false;
        }
        int end = placeOf(knot, exit);
        if (goesAlong(end, other)) {
            way.begun = false;
        }
        net.part(end, other);
        return true;
    }

    public boolean sight(int knot, int sight) {
        return isSight(sight) && net.show(knot, sight);
    }

    public int look(int knot, int exit, int what) {
        if (what == 3) {
            return net.sightOf(knot);
        }
        int other = net.across(knot, exit);
        if (other == NONE) {
            return NONE;
        }
        switch (what) {
            case 0: return knotOf(other);
            case 1: return facingFrom(other);
            case 2: return net.nameAt(knot, exit);
            default: return NONE;
        }
    }

    public int price(int kind, int v) {
        if (!isKind(kind) || v < 0 || v > MOST_PRICE) {
            return NONE;
        }
        int before = prices[kind];
        prices[kind] = v;
        return before;
    }

    public int allow(int bits) {
        if (bits < 0 || bits > ALL_KINDS) {
            return NONE;
        }
        int before = allowed;
        allowed = bits;
        return before;
    }

    // ---- what is said, a walker

    public int say(int kind, int number) {
        if (!isKind(kind) || number < LEAST_NUMBERS[kind] || number > MOST_NUMBERS[kind]) {
            return NONE;
        }
        return sayings.add(kind * 10 + number) ? sayings.size : NONE;
    }

    public int hush() {
        int before = sayings.size;
        sayings.clear();
        return before;
    }

    public int said(int i) {
        return sayings.at(i);
    }

    public int walk(int knot, int facing) {
        if (!net.hasKnot(knot) || !isExit(facing)) {
            return NONE;
        }
        hasLatest = true;
        latest.stand(knot, facing);
        int lostAt = latest.followAll(sayings, NONE);
        return lostAt == NONE ? latest.knot : lostAnswer(lostAt);
    }

    public int walked(int what) {
        if (!hasLatest) {
            return NONE;
        }
        switch (what) {
            case 0: return latest.knot;
            case 1: return latest.facing;
            case 2: return latest.streets;
            default: return exitAsked(latest.exits, what);
        }
    }

    // ---- routes

    public boolean start(int knot, int facing) {
        if (!net.hasKnot(knot) || !isExit(facing)) {
            return false;
        }
        way.begin(knot, facing);
        return true;
    }

    public int go(int exit) {
        if (!way.begun) {
            return NONE;
        }
        boolean isStreet = net.across(knotOf(lastPlace()), exit) != NONE;
        return isStreet && way.exits.add(exit) ? way.exits.size : NONE;
    }

    public int route(int knot) {
        if (!way.begun || !net.hasKnot(knot)) {
            return NONE;
        }
        net.measureTo(knot);
        if (net.distanceFrom(way.knot) == NONE) {
            return NONE;
        }
        way.exits.clear();
        net.addShortest(way.knot, way.exits);
        return way.exits.size;
    }

    public int routed(int what) {
        if (!way.begun) {
            return NONE;
        }
        switch (what) {
            case 0: return way.exits.size;
            case 1: return knotOf(lastPlace());
            case 2: return exitOf(lastPlace());
            default: return exitAsked(way.exits, what);
        }
    }

    public int tell() {
        if (!way.begun) {
            return NONE;
        }
        chartWay();
        return chart.spell(0, sayings);
    }

    public int holds() {
        if (!way.begun) {
            return NONE;
        }
        return isWalkedBy(way, sayings) ? 1 : 0;
    }

    public int slip(int i) {
        if (!way.begun || !canSlip(sayings.at(i))) {
            return NONE;
        }
        scout.stand(way.knot, way.facing);
        int lostAt = scout.followAll(sayings, i);
        if (lostAt != NONE) {
            return lostAnswer(lostAt);
        }
        return scout.knot == knotOf(lastPlace()) ? 1 : 0;
    }

    public int best(int knot, int facing, int to) {
        if (!net.hasKnot(knot) || !isExit(facing) || !net.hasKnot(to)) {
            return NONE;
        }
        chartNet(to);
        return chart.spell(placeOf(knot, facing), sayings);
    }

    // ---- kept

    public int keep() {
        if (!way.begun || keptCount < 0 || keptCount >= MOST_KEPT) {
            return NONE;
        }
        keptOnes[keptCount] = new Kept(way, sayings);
        keptCount++;
        return keptCount - 1;
    }

    // As with holds(), kinds are not asked. A street that is gone needs no test of its own:
    // no walker can go by its exit, so the kept sayings can't match the kept exits.
    public int still(int kept) {
        Kept one = kept >= 0 && kept < MOST_KEPT ? keptOnes[kept] : null;
        if (one == null) {
            return NONE;
        }
        return isWalkedBy(one.way, one.sayings) ? 1 : 0;
    }

    public int count(int what) {
        switch (what) {
            case 0: return net.knots;
            case 1: return net.streets;
            case 2: return sayings.size;
            case 3: return keptCount;
            case 4: return priceOfSaid();
            case 5: return allowed;
            default: return NONE;
        }
    }

    // ---- helpers

    private static boolean isSight(int sight) {
        return sight >= 0 && sight <= MOST_SIGHT;
    }

    private static boolean isExit(int exit) {
        return exit >= 0 && exit < EXITS;
    }

    private static boolean isKind(int kind) {
        return kind >= 0 && kind < KINDS;
    }

    private static int kindOf(int saying) {
        return saying / 10;
    }

    private static int numberOf(int saying) {
        return saying % 10;
    }

    private static int turned(int facing, int by) {
        return (facing + by) % EXITS;
    }

    // A street's end (knot and exit) and a walker's place (knot and facing) are both held as one
    // number, knot times 4 and the other.
    private static int placeOf(int knot, int exit) {
        return knot * EXITS + exit;
    }

    private static int knotOf(int place) {
        return place / EXITS;
    }

    private static int exitOf(int place) {
        return place % EXITS;
    }

    private static int facingFrom(int endComeInBy) {
        return (endComeInBy + BACK) % EXITS;
    }

    private static int lostAnswer(int lostAt) {
        return -2 - lostAt;
    }

    private static int exitAsked(Row exits, int what) {
        return what < FIRST_EXIT_ASKED ? NONE : exits.at(what - FIRST_EXIT_ASKED);
    }

    private static boolean canSlip(int saying) {
        if (saying == NONE) {
            return false;
        }
        int kind = kindOf(saying);
        return kind == RIGHT || kind == LEFT || kind == NTH_LEFT || kind == NTH_RIGHT
            || kind == UNTIL;
    }

    private boolean isAllowed(int kind) {
        return ((allowed >> kind) & 1) == 1;
    }

    private int priceOf(int kind) {
        return isKind(kind) ? prices[kind] : 0;
    }

    private int priceOfSaid() {
        int sum = 0;
        for (int i = 0; i < sayings.size; i++) {
            sum += priceOf(kindOf(sayings.at(i)));
        }
        return sum;
    }

    private boolean goesAlong(int end, int other) {
        if (!way.begun) {
            return false;
        }
        int knot = way.knot;
        for (int i = 0; i < way.exits.size; i++) {
            int exit = way.exits.at(i);
            int out = placeOf(knot, exit);
            if (out == end || out == other) {
                return true;
            }
            knot = knotOf(net.across(knot, exit));
        }
        return false;
    }

    private int lastPlace() {
        int place = placeOf(way.knot, way.facing);
        for (int i = 0; i < way.exits.size; i++) {
            place = placeAfter(place, way.exits.at(i));
        }
        return place;
    }

    private int placeAfter(int place, int exit) {
        int in = net.across(knotOf(place), exit);
        return placeOf(knotOf(in), facingFrom(in));
    }

    private boolean isWalkedBy(Way asked, Row row) {
        scout.stand(asked.knot, asked.facing);
        return scout.followAll(row, NONE) == NONE
            && scout.streets == asked.exits.size
            && scout.wentAlong(asked.exits, 0);
    }

    private void openChart(int places) {
        chart.clear(places);
        for (int s = 0; s < SAYINGS.length; s++) {
            chart.setPrice(s, priceOf(kindOf(SAYINGS[s])));
        }
    }

    // The places of this chart are how far along the route the walker is.
    private void chartWay() {
        int end = way.exits.size;
        openChart(end + 1);
        chart.setGoal(end);
        int place = placeOf(way.knot, way.facing);
        for (int at = 0; at < end; at++) {
            for (int s = 0; s < SAYINGS.length; s++) {
                if (scoutFollows(place, SAYINGS[s]) && scout.wentAlong(way.exits, at)) {
                    chart.setLead(at, s, at + scout.streets);
                }
            }
            place = placeAfter(place, way.exits.at(at));
        }
        chart.settle();
    }

    // The places of this chart are all knots with all facings.
    private void chartNet(int to) {
        int places = net.knots * EXITS;
        openChart(places);
        for (int facing = 0; facing < EXITS; facing++) {
            chart.setGoal(placeOf(to, facing));
        }
        for (int place = 0; place < places; place++) {
            for (int s = 0; s < SAYINGS.length; s++) {
                if (scoutFollows(place, SAYINGS[s])) {
                    chart.setLead(place, s, placeOf(scout.knot, scout.facing));
                }
            }
        }
        chart.settle();
    }

    private boolean scoutFollows(int place, int saying) {
        if (!isAllowed(kindOf(saying))) {
            return false;
        }
        scout.stand(knotOf(place), exitOf(place));
        return scout.follow(kindOf(saying), numberOf(saying), 1);
    }

    /** Numbers, none below 0, in a row that takes no more than it has room for. */
    private static final class Row {
        private final int[] items;
        private int size = 0;

        Row(int room) {
            items = new int[Math.max(room, 0)];
        }

        int at(int i) {
            return i >= 0 && i < size && i < items.length ? items[i] : NONE;
        }

        boolean add(int item) {
            if (size < 0 || size >= items.length) {
                return false;
            }
            items[size] = item;
            size++;
            return true;
        }

        void clear() {
            size = 0;
        }

        void copy(Row other) {
            clear();
            for (int i = 0; i < other.size; i++) {
                add(other.at(i));
            }
        }
    }

    /** A route: where it begins, and the exits by which it goes on. */
    private static final class Way {
        private boolean begun = false;
        private int knot = 0;
        private int facing = 0;
        private final Row exits = new Row(MOST_ROUTED);

        void begin(int newKnot, int newFacing) {
            begun = true;
            knot = newKnot;
            facing = newFacing;
            exits.clear();
        }

        void copy(Way other) {
            begun = other.begun;
            knot = other.knot;
            facing = other.facing;
            exits.copy(other.exits);
        }
    }

    /** A route with what was said when it was kept. */
    private static final class Kept {
        private final Way way = new Way();
        private final Row sayings = new Row(MOST_SAID);

        Kept(Way oldWay, Row oldSayings) {
            way.copy(oldWay);
            sayings.copy(oldSayings);
        }
    }

    /** Knots and streets; a street is held as two ends that lead to one another. */
    private static final class Net {
        private int knots = 0;
        private int streets = 0;
        private final int[] sights = new int[MOST_KNOTS];
        private final int[] acrossFrom = new int[MOST_ENDS];
        private final int[] names = new int[MOST_ENDS];
        private final int[] distances = new int[MOST_KNOTS];
        private final Row reached = new Row(MOST_KNOTS);

        Net() {
            for (int end = 0; end < MOST_ENDS; end++) {
                acrossFrom[end] = NONE;
            }
        }

        boolean hasKnot(int knot) {
            return knot >= 0 && knot < knots && knot < MOST_KNOTS;
        }

        int addKnot(int newSight) {
            if (knots < 0 || knots >= MOST_KNOTS) {
                return NONE;
            }
            sights[knots] = newSight;
            knots++;
            return knots - 1;
        }

        boolean show(int knot, int newSight) {
            if (!hasKnot(knot)) {
                return false;
            }
            sights[knot] = newSight;
            return true;
        }

        int sightOf(int knot) {
            return hasKnot(knot) ? sights[knot] : NONE;
        }

        // The end by which one comes in who goes out by this exit; NONE, if there is no street.
        int across(int knot, int exit) {
            if (knot < 0 || knot >= MOST_KNOTS || exit < 0 || exit >= EXITS) {
                return NONE;
            }
            return acrossFrom[knot * EXITS + exit];
        }

        int nameAt(int knot, int exit) {
            return hasKnot(knot) && isExit(exit) ? names[placeOf(knot, exit)] : NONE;
        }

        boolean isFree(int knot, int exit) {
            return hasKnot(knot) && isExit(exit) && across(knot, exit) == NONE;
        }

        boolean join(int end, int other, int name) {
            if (!isEnd(end) || !isEnd(other) || end == other) {
                return false;
            }
            acrossFrom[end] = other;
            acrossFrom[other] = end;
            names[end] = name;
            names[other] = name;
            streets++;
            return true;
        }

        void part(int end, int other) {
            if (isEnd(end) && isEnd(other)) {
                acrossFrom[end] = NONE;
                acrossFrom[other] = NONE;
                streets--;
            }
        }

        int distanceFrom(int knot) {
            return hasKnot(knot) ? distances[knot] : NONE;
        }

        // A street can be gone both ways, so the distances from a knot are those to it.
        void measureTo(int knot) {
            for (int i = 0; i < MOST_KNOTS; i++) {
                distances[i] = NONE;
            }
            reached.clear();
            reach(knot, 0);
            for (int i = 0; i < MOST_KNOTS && i < reached.size; i++) {
                reachAround(reached.at(i));
            }
        }

        void addShortest(int from, Row exits) {
            int knot = from;
            for (int left = distanceFrom(from); left > 0; left--) {
                int exit = exitNearer(knot);
                exits.add(exit);
                knot = knotAfter(knot, exit);
            }
        }

        private void reachAround(int knot) {
            for (int exit = 0; exit < EXITS; exit++) {
                reach(knotAfter(knot, exit), distanceFrom(knot) + 1);
            }
        }

        private void reach(int knot, int distance) {
            if (hasKnot(knot) && distances[knot] == NONE) {
                distances[knot] = distance;
                reached.add(knot);
            }
        }

        private int exitNearer(int knot) {
            for (int exit = 0; exit < EXITS; exit++) {
                int next = knotAfter(knot, exit);
                if (next != NONE && distanceFrom(next) == distanceFrom(knot) - 1) {
                    return exit;
                }
            }
            return NONE;
        }

        private int knotAfter(int knot, int exit) {
            int in = across(knot, exit);
            return in == NONE ? NONE : knotOf(in);
        }

        private static boolean isEnd(int end) {
            return end >= 0 && end < MOST_ENDS;
        }
    }

    /** A stranger in the net, who does as told and notes the exits taken. */
    private static final class Walker {
        private final Net net;
        private int knot = 0;
        private int facing = 0;
        private int streets = 0;
        private int byThisSaying = 0;
        private final Row exits = new Row(MOST_WALKED_TOLD);

        Walker(Net net) {
            this.net = net;
        }

        void stand(int newKnot, int newFacing) {
            knot = newKnot;
            facing = newFacing;
            streets = 0;
            exits.clear();
        }

        // The answer is the saying at which the walker is lost, or NONE.
        int followAll(Row row, int slipAt) {
            for (int i = 0; i < row.size; i++) {
                int kind = kindOf(row.at(i));
                int number = numberOf(row.at(i));
                boolean arrived = i == slipAt ? followSlipped(kind, number) : follow(kind, number, 1);
                if (!arrived) {
                    return i;
                }
            }
            return NONE;
        }

        // Where UNTIL ends is the sight met so many times: more than once only by a slip.
        boolean follow(int kind, int number, int meetings) {
            byThisSaying = 0;
            switch (kind) {
                case STRAIGHT:
                case RIGHT:
                case BACK:
                case LEFT:
                    return pass(turned(facing, kind));
                case NTH_LEFT: return turnAtNth(LEFT, number);
                case NTH_RIGHT: return turnAtNth(RIGHT, number);
                case UNTIL: return passUntil(number, meetings);
                case NAMED: return passNamed(number);
                case TO_THE_END: return passToTheEnd();
                default: return false;
            }
        }

        boolean wentAlong(Row route, int from) {
            if (streets > route.size - from) {
                return false;
            }
            for (int i = 0; i < streets; i++) {
                if (exits.at(i) != route.at(from + i)) {
                    return false;
                }
            }
            return true;
        }

        private boolean followSlipped(int kind, int number) {
            switch (kind) {
                case RIGHT: return follow(LEFT, number, 1);
                case LEFT: return follow(RIGHT, number, 1);
                case NTH_LEFT:
                case NTH_RIGHT:
                    return follow(kind, number + 1, 1);
                default: return follow(kind, number, 2);
            }
        }

        private boolean pass(int exit) {
            int in = net.across(knot, exit);
            if (in == NONE || byThisSaying >= MOST_BY_ONE_SAYING) {
                return false;
            }
            exits.add(exit);
            streets++;
            byThisSaying++;
            knot = knotOf(in);
            facing = facingFrom(in);
            return true;
        }

        private boolean hasStreet(int exit) {
            return net.across(knot, exit) != NONE;
        }

        private boolean turnAtNth(int side, int number) {
            int met = 0;
            for (int looked = 0; looked <= MOST_BY_ONE_SAYING; looked++) {
                int exit = turned(facing, side);
                if (hasStreet(exit)) {
                    met++;
                }
                if (met >= number) {
                    return pass(exit);
                }
                if (!pass(facing)) {
                    return false;
                }
            }
            return false;
        }

        private boolean passUntil(int sight, int meetings) {
            int met = 0;
            for (int gone = 0; gone <= MOST_BY_ONE_SAYING; gone++) {
                if (!pass(facing)) {
                    return false;
                }
                if (net.sightOf(knot) == sight) {
                    met++;
                }
                if (met >= meetings) {
                    return true;
                }
            }
            return false;
        }

        private boolean passNamed(int name) {
            int found = NONE;
            for (int side = 0; side < EXITS; side++) {
                int exit = turned(facing, side);
                if (side != BACK && hasStreet(exit) && net.nameAt(knot, exit) == name) {
                    if (found != NONE) {
                        return false;
                    }
                    found = exit;
                }
            }
            return pass(found);
        }

        private boolean passToTheEnd() {
            for (int gone = 0; gone <= MOST_BY_ONE_SAYING; gone++) {
                if (!pass(facing)) {
                    return false;
                }
                if (!hasStreet(facing)) {
                    return true;
                }
            }
            return false;
        }
    }

    /**
     * Places, and the place to which each saying leads from each. What a row of sayings costs is
     * one number, its price times COST_OF_PRICE and how many they are: less of it is a better row.
     */
    private static final class Chart {
        private static final int MOST_PLACES = MOST_ENDS;
        private static final int COST_OF_PRICE = 1000;
        private static final int UNREACHED = 1000000000;

        private int places = 0;
        private final int[] leads = new int[MOST_PLACES * SAYINGS.length];
        private final int[] leastCosts = new int[MOST_PLACES];
        private final int[] costs = new int[SAYINGS.length];

        void clear(int newPlaces) {
            places = Math.max(0, Math.min(newPlaces, MOST_PLACES));
            for (int i = 0; i < places * SAYINGS.length; i++) {
                leads[i] = NONE;
            }
            for (int i = 0; i < places; i++) {
                leastCosts[i] = UNREACHED;
            }
        }

        void setPrice(int s, int newPrice) {
            if (isSaying(s)) {
                costs[s] = newPrice * COST_OF_PRICE + 1;
            }
        }

        void setGoal(int place) {
            if (isPlace(place)) {
                leastCosts[place] = 0;
            }
        }

        void setLead(int place, int s, int to) {
            if (isPlace(place) && isSaying(s)) {
                leads[place * SAYINGS.length + s] = to;
            }
        }

        // The least row comes to no place twice, so there are no more rounds with a change than
        // places. Later places go first because a route's sayings lead to later ones.
        void settle() {
            boolean changed = true;
            for (int round = 0; round <= places && changed; round++) {
                changed = false;
                for (int place = places - 1; place >= 0; place--) {
                    if (improve(place)) {
                        changed = true;
                    }
                }
            }
        }

        // The answer is the price; with NONE what is said stays.
        int spell(int from, Row row) {
            int cost = leastCostFrom(from);
            int steps = cost % COST_OF_PRICE;
            if (cost >= UNREACHED || steps > MOST_SAID) {
                return NONE;
            }
            row.clear();
            int place = from;
            for (int i = 0; i < steps; i++) {
                int s = firstOnLeast(place);
                if (!isSaying(s)) {
                    return NONE;
                }
                row.add(SAYINGS[s]);
                place = leadOf(place, s);
            }
            return cost / COST_OF_PRICE;
        }

        private boolean improve(int place) {
            if (!isPlace(place)) {
                return false;
            }
            int before = leastCosts[place];
            int least = before;
            for (int s = 0; s < SAYINGS.length; s++) {
                int cost = costBy(place, s);
                if (cost < least) {
                    least = cost;
                }
            }
            leastCosts[place] = least;
            return least < before;
        }

        private int firstOnLeast(int place) {
            for (int s = 0; s < SAYINGS.length; s++) {
                if (costBy(place, s) == leastCostFrom(place)) {
                    return s;
                }
            }
            return NONE;
        }

        private int costBy(int place, int s) {
            int to = leadOf(place, s);
            if (to < 0 || to >= places || s < 0 || s >= costs.length) {
                return UNREACHED;
            }
            return leastCosts[to] + costs[s];
        }

        private int leadOf(int place, int s) {
            int at = place * SAYINGS.length + s;
            return at >= 0 && at < leads.length ? leads[at] : NONE;
        }

        private int leastCostFrom(int place) {
            return isPlace(place) ? leastCosts[place] : UNREACHED;
        }

        private boolean isPlace(int place) {
            return place >= 0 && place < places && place < MOST_PLACES;
        }

        private static boolean isSaying(int s) {
            return s >= 0 && s < SAYINGS.length;
        }
    }
}
