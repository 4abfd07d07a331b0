/** Compares answers with those that are due, and ends the program with 1 if one was wrong. */
final class Due {
    private int asked = 0;
    private int wrong = 0;

    void same(String call, long got, long want) {
        asked++;
        if (got != want) {
            wrong++;
            System.out.println(call + " answered " + got + ", due is " + want);
        }
    }

    void text(String call, String got, String want) {
        asked++;
        if (!got.equals(want)) {
            wrong++;
            System.out.println(call + ": got \"" + got + "\", due is \"" + want + "\"");
        }
    }

    void yes(String call, boolean got) {
        same(call, got ? 1 : 0, 1);
    }

    void no(String call, boolean got) {
        same(call, got ? 1 : 0, 0);
    }

    /** What is said, as one row of KIND times 10 and NUMBER. */
    void said(String call, WaysTold x, int... want) {
        same(call + ", how many are said", x.count(2), want.length);
        for (int i = 0; i < want.length; i++) {
            same(call + ", said(" + i + ")", x.said(i), want[i]);
        }
        same(call + ", said() behind the last", x.said(want.length), WaysTold.NONE);
    }

    /** The route's exits. */
    void routed(String call, WaysTold x, int... want) {
        same(call + ", routed(0)", x.routed(0), want.length);
        for (int i = 0; i < want.length; i++) {
            same(call + ", routed(" + (10 + i) + ")", x.routed(10 + i), want[i]);
        }
        same(call + ", routed() behind the last", x.routed(10 + want.length), WaysTold.NONE);
    }

    void end() {
        System.out.println(asked + " answers asked, " + wrong + " wrong");
        if (wrong != 0) {
            System.exit(1);
        }
    }
}
