/** Promises 9 to 13: say, hush, said, walk, walked; and what each kind of saying does. */
public final class SaidTest {
    private static final int NONE = WaysTold.NONE;
    private static final int[] ODD = {-1, Integer.MIN_VALUE, Integer.MAX_VALUE};
    private static final Due due = new Due();

    public static void main(String[] args) {
        say();
        sayNumbers();
        hushAndSaid();
        turns();
        nthTurns();
        nthTurnsMeetKnotsAgain();
        until();
        named();
        toTheEnd();
        walked();
        walkedLong();
        due.end();
    }

    private static void say() {
        WaysTold x = new WaysTold();
        for (int i = 1; i <= 60; i++) {
            due.same("9: saying " + i, x.say(i % 4, 0), i);
        }
        due.same("9: saying 61", x.say(0, 0), NONE);
        due.same("9: still 60", x.count(2), 60);
        due.same("9: the last one", x.said(59), 0);
        due.same("9: hush", x.hush(), 60);
        due.same("9: there is room again", x.say(8, 0), 1);
    }

    private static void sayNumbers() {
        int[] least = {0, 0, 0, 0, 1, 1, 1, 1, 0};
        int[] most = {0, 0, 0, 0, 4, 4, 7, 9, 0};
        for (int kind = 0; kind < 9; kind++) {
            WaysTold x = new WaysTold();
            int many = 0;
            for (int number = least[kind]; number <= most[kind]; number++) {
                many++;
                due.same("9: say(" + kind + ", " + number + ")", x.say(kind, number), many);
                due.same("9: is said", x.said(many - 1), kind * 10 + number);
            }
            due.same("9: less, kind " + kind, x.say(kind, least[kind] - 1), NONE);
            due.same("9: more, kind " + kind, x.say(kind, most[kind] + 1), NONE);
            due.same("9: ten more, kind " + kind, x.say(kind, least[kind] + 10), NONE);
            for (int odd : ODD) {
                due.same("9: odd number, kind " + kind, x.say(kind, odd), NONE);
            }
            due.same("9: refused ones change nothing", x.count(2), many);
        }
        WaysTold x = new WaysTold();
        due.same("9: kind 9", x.say(9, 0), NONE);
        for (int odd : ODD) {
            due.same("9: odd kind", x.say(odd, 0), NONE);
        }
        x.allow(0);
        due.same("9: what is not allowed can be said", x.say(0, 0), 1);
    }

    private static void hushAndSaid() {
        WaysTold x = new WaysTold();
        due.same("10: nothing", x.hush(), 0);
        Nets.say(x, 10, 44, 79);
        due.said("11: said", x, 10, 44, 79);
        for (int odd : ODD) {
            due.same("11: odd", x.said(odd), NONE);
        }
        due.same("10: three", x.hush(), 3);
        due.said("10: nothing is said", x);
        due.same("11: nothing at 0", x.said(0), NONE);
        due.same("10: again", x.hush(), 0);
    }

    private static void turns() {
        int[] ends = {1, 5, 7, 3};
        for (int facing = 0; facing < 4; facing++) {
            for (int kind = 0; kind < 4; kind++) {
                WaysTold x = Nets.grid(3, 3);
                x.say(kind, 0);
                int exit = (facing + kind) % 4;
                due.same("12: kind " + kind + " facing " + facing, x.walk(4, facing), ends[exit]);
                due.same("13: faces as it went", x.walked(1), exit);
                due.same("13: one street", x.walked(2), 1);
                due.same("13: its exit", x.walked(10), exit);
            }
        }
        WaysTold bent = Nets.knots(2);
        bent.street(0, 1, 1, 0, 0);
        bent.street(1, 2, 0, 0, 0);
        Nets.say(bent, 0, 0);
        due.same("12: comes in by 0, faces 2", bent.walk(0, 1), 0);
        due.same("13: facing by where it came in", bent.walked(1), 2);
        Nets.say(bent, 0, 0, 10);
        due.same("12: lost at saying 2", bent.walk(0, 1), -4);
        due.same("13: stays there", bent.walked(0), 0);
        due.same("13: faces as before", bent.walked(1), 2);
    }

    private static void nthTurns() {
        WaysTold x = Nets.grid(3, 6);
        Nets.say(x, 51);
        due.same("12: the first one too", x.walk(0, 1), 6);
        Nets.say(x, 53);
        due.same("12: third right", x.walk(0, 1), 8);
        due.same("13: three streets", x.walked(2), 3);
        due.same("13: turned at last", x.walked(12), 2);
        Nets.say(x, 54);
        due.same("12: fourth right", x.walk(6, 1), 15);
        Nets.say(x, 44);
        due.same("12: fourth left", x.walk(6, 1), 3);
        due.same("13: faces left", x.walked(1), 0);
        Nets.say(x, 41);
        due.same("12: no left at all", x.walk(0, 1), -2);
        due.same("13: it went to the end", x.walked(0), 5);
        due.same("13: five streets", x.walked(2), 5);
        x.close(2, 2);
        x.close(3, 2);
        Nets.say(x, 53);
        due.same("12: knots without a street don't count", x.walk(0, 1), 10);
        Nets.say(x, 54, 0);
        due.same("12: the last one", x.walk(0, 1), 17);
        Nets.say(x, 54, 0, 0);
        due.same("12: lost behind it", x.walk(0, 1), -4);
    }

    private static void nthTurnsMeetKnotsAgain() {
        WaysTold x = Nets.ring(2);
        x.knot(0);
        x.street(0, 2, 2, 0, 0);
        Nets.say(x, 52);
        due.same("12: second right, the same knot again", x.walk(0, 1), 2);
        due.same("13: round once", x.walked(2), 3);
        Nets.say(x, 42);
        due.same("12: second left, the other way round", x.walk(0, 3), 2);
    }

    private static void until() {
        WaysTold x = Nets.line(5);
        x.sight(0, 4);
        x.sight(2, 4);
        x.sight(3, 5);
        Nets.say(x, 64);
        due.same("12: once at least", x.walk(0, 1), 2);
        due.same("12: once at least, to the other one", x.walk(2, 3), 0);
        Nets.say(x, 65);
        due.same("12: another sight", x.walk(0, 1), 3);
        Nets.say(x, 66);
        due.same("12: no such sight", x.walk(0, 1), -2);
        due.same("13: at the end", x.walked(0), 4);
        Nets.say(x, 64, 65, 64);
        due.same("12: lost at saying 2", x.walk(0, 1), -4);
    }

    private static void named() {
        WaysTold x = Nets.knots(5);
        x.street(0, 0, 1, 2, 3);
        x.street(0, 1, 2, 3, 4);
        x.street(0, 2, 3, 0, 3);
        x.street(0, 3, 4, 1, 4);
        Nets.say(x, 73);
        due.same("12: ahead, not back", x.walk(0, 0), 1);
        due.same("12: the other way", x.walk(0, 2), 3);
        due.same("12: left and right", x.walk(0, 1), -2);
        due.same("13: it stays", x.walked(2), 0);
        Nets.say(x, 74);
        due.same("12: two of them", x.walk(0, 0), -2);
        due.same("12: the one ahead", x.walk(0, 3), 4);
        Nets.say(x, 75);
        due.same("12: none", x.walk(0, 0), -2);
        x.close(0, 0);
        Nets.say(x, 73);
        due.same("12: a street that is gone has no name", x.walk(0, 0), -2);
        WaysTold loop = Nets.knots(1);
        loop.street(0, 0, 0, 1, 9);
        Nets.say(loop, 79);
        due.same("12: both exits of one street", loop.walk(0, 0), -2);
        due.same("12: one of them is back", loop.walk(0, 2), 0);
        due.same("13: it went by the other", loop.walked(10), 1);
    }

    private static void toTheEnd() {
        WaysTold x = Nets.line(5);
        Nets.say(x, 80);
        due.same("12: to the end", x.walk(1, 1), 4);
        due.same("12: the other end", x.walk(4, 3), 0);
        due.same("12: once at least", x.walk(4, 1), -2);
        x.street(4, 0, 4, 1, 0);
        due.same("12: out by 1, in by 0, facing 2", x.walk(0, 1), 4);
        due.same("13: facing 2", x.walked(1), 2);
        due.same("13: five streets", x.walked(2), 5);
    }

    private static void walked() {
        WaysTold x = Nets.grid(3, 3);
        Nets.say(x, 52, 30, 0);
        due.same("12: lost", x.walk(0, 1), -4);
        due.same("13: where", x.walked(0), 5);
        due.same("13: facing", x.walked(1), 1);
        due.same("13: streets", x.walked(2), 3);
        int[] exits = {1, 2, 1};
        for (int i = 0; i < exits.length; i++) {
            due.same("13: exit " + i, x.walked(10 + i), exits[i]);
        }
        due.same("13: no exit 3", x.walked(13), NONE);
        for (int what = 3; what < 10; what++) {
            due.same("13: what " + what, x.walked(what), NONE);
        }
        for (int odd : ODD) {
            due.same("13: odd what", x.walked(odd), NONE);
        }
        x.start(0, 1);
        x.go(1);
        x.tell();
        x.holds();
        x.best(0, 1, 8);
        x.slip(0);
        due.same("13: other calls walk too, but not walk()", x.walked(2), 3);
        x.hush();
        x.close(4, 1);
        due.same("13: the walk was as it was", x.walked(12), 1);
    }

    private static void walkedLong() {
        WaysTold x = Nets.ring(7);
        x.sight(3, 1);
        x.hush();
        for (int i = 0; i < 60; i++) {
            x.say(6, 1);
        }
        due.same("12: round and round", x.walk(0, 1), 3);
        due.same("13: all of them count", x.walked(2), 3 + 59 * 7);
        due.same("13: street 200", x.walked(209), 1);
        due.same("13: street 201 is not told", x.walked(210), NONE);
        x.hush();
        x.say(0, 0);
        x.walk(0, 3);
        due.same("13: the latest one only", x.walked(2), 1);
        due.same("13: its exit", x.walked(10), 3);
        due.same("13: nothing of the one before", x.walked(11), NONE);
    }
}
