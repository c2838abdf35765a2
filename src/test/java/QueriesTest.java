/** Promises 16 to 22. */
public final class QueriesTest {
    private static final Checks CHECKS = new Checks();

    public static void main(String[] args) {
        personTells();
        pairTells();
        linksTold();
        partners();
        hinderedPeople();
        plans();
        planChangesAlongAPath();
        counts();
        wrongArguments();
        CHECKS.end();
    }

    private static FenceHandshakes example() {
        FenceHandshakes x = Setups.allLinked();
        Setups.addWishes(x, 00, 01, 10, 12, 22, 23, 32, 77);
        x.quarrel(0, 0, 2);
        x.quarrel(1, 5, 3);
        x.link(3, 3, false);
        return x;
    }

    private static void personTells() {
        FenceHandshakes x = example();
        int[] left0 = {0, 2, 1, 1, 0, 254};
        int[] left7 = {3, 1, 0, 0, 0, 63};
        int[] right0 = {0, 2, 1, 1, 0, 254};
        int[] right2 = {1, 3, 3, 0, 0, 255};
        for (int what = 0; what < 6; what++) {
            CHECKS.due("left 0, " + what, x.person(true, 0, what), left0[what]);
            CHECKS.due("left 7, " + what, x.person(true, 7, what), left7[what]);
            CHECKS.due("right 0, " + what, x.person(false, 0, what), right0[what]);
            CHECKS.due("right 2, " + what, x.person(false, 2, what), right2[what]);
        }
        // 0-1, 1-0, 2-3 and 3-2 shake hands; then 0-0 is in a feud yet, and 1-2 comes ahead of 2-2.
        CHECKS.due("round", x.round(), 4);
        x.wish(0, 1);
        CHECKS.due("round 1", x.round(), 2);
        CHECKS.due("handshakes of left 0", x.person(true, 0, 4), 2);
        CHECKS.due("handshakes of right 1", x.person(false, 1, 4), 2);
        CHECKS.due("handshakes of left 1", x.person(true, 1, 4), 2);
        CHECKS.due("handshakes of right 2", x.person(false, 2, 4), 2);
        CHECKS.due("handshakes of left 2", x.person(true, 2, 4), 1);
        CHECKS.due("handshakes of left 7", x.person(true, 7, 4), 0);
        CHECKS.due("feuds of left 0 then", x.person(true, 0, 3), 0);
        CHECKS.due("feuds of right 5 then", x.person(false, 5, 3), 1);
    }

    private static void pairTells() {
        FenceHandshakes x = example();
        CHECKS.due("0 0: a feud", x.pair(0, 0, 3), 3);
        CHECKS.due("0 1: does", x.pair(0, 1, 3), 0);
        CHECKS.due("1 2: another matching", x.pair(1, 2, 3), 4);
        CHECKS.due("7 7: not linked", x.pair(7, 7, 3), 2);
        CHECKS.due("1 5: no wish comes first", x.pair(1, 5, 3), 1);
        x.quarrel(7, 7, 9);
        CHECKS.due("7 7: not linked comes ahead of the feud", x.pair(7, 7, 3), 2);
        CHECKS.due("0 0 wishes", x.pair(0, 0, 0), 1);
        CHECKS.due("1 1 wishes not", x.pair(1, 1, 0), 0);
        CHECKS.due("feud of 1 5", x.pair(1, 5, 1), 3);
        CHECKS.due("feud of 5 1", x.pair(5, 1, 1), 0);
        for (int n = 1; n <= 3; n++) {
            x.wish(5, 6);
            x.round();
            CHECKS.due("handshakes of 5 6", x.pair(5, 6, 2), n);
        }
        CHECKS.due("handshakes of 6 5", x.pair(6, 5, 2), 0);
        CHECKS.due("handshakes of 2 3", x.pair(2, 3, 2), 1);
    }

    private static void linksTold() {
        FenceHandshakes x = example();
        CHECKS.due("3 3", x.isLinked(3, 3), 0);
        CHECKS.due("3 2", x.isLinked(3, 2), 1);
        CHECKS.due("queries record nothing", x.undo(), 4);
        CHECKS.due("3 3 after undo", x.isLinked(3, 3), 1);
    }

    private static void partners() {
        FenceHandshakes x = example();
        int[] ofLeft = {1, 0, 3, 2, -5, -5, -5, -5};
        int[] ofRight = {1, 0, 3, 2, -5, -5, -5, -5};
        for (int p = 0; p < 8; p++) {
            CHECKS.due("partner of left " + p, x.partner(true, p), ofLeft[p]);
            CHECKS.due("partner of right " + p, x.partner(false, p), ofRight[p]);
        }
        FenceHandshakes y = Setups.allLinked();
        Setups.addWishes(y, 05, 06, 15, 45);
        CHECKS.due("0 yields to 1", y.partner(true, 0), 6);
        CHECKS.due("1 is ahead of 4", y.partner(true, 1), 5);
        CHECKS.due("4 has none", y.partner(true, 4), -5);
        CHECKS.due("right 5", y.partner(false, 5), 1);
        CHECKS.due("right 6", y.partner(false, 6), 0);
        CHECKS.due("nothing happens", y.count(0), 4);
    }

    private static void hinderedPeople() {
        FenceHandshakes x = Setups.allLinked();
        Setups.addWishes(x, 03, 13);
        CHECKS.due("two for one", x.hindered(), 3);
        x.wish(1, 4);
        CHECKS.due("enough", x.hindered(), 0);
        x.wish(2, 3);
        CHECKS.due("0 and 2, not 1, who is sought in no other way", x.hindered(), 5);
        x.wish(3, 4);
        CHECKS.due("all four", x.hindered(), 15);
        x.wish(7, 7);
        CHECKS.due("7 is apart", x.hindered(), 15);
        x.quarrel(3, 4, 1);
        CHECKS.due("without possible wishes 3 is not hindered", x.hindered(), 5);
        FenceHandshakes y = new FenceHandshakes();
        y.wish(0, 7);
        CHECKS.due("impossible wishes", y.hindered(), 0);
    }

    private static void plans() {
        FenceHandshakes x = example();
        CHECKS.due("0 0 is not possible", x.planned(0, 0), -5);
        CHECKS.due("0 1", x.planned(0, 1), 0);
        CHECKS.due("1 0", x.planned(1, 0), 0);
        CHECKS.due("1 2", x.planned(1, 2), 1);
        // 2-2 has 0 at first, and yields it to 3-2 for 2, the least number that the right person 2 has not.
        CHECKS.due("2 2", x.planned(2, 2), 2);
        CHECKS.due("2 3", x.planned(2, 3), 1);
        CHECKS.due("3 2", x.planned(3, 2), 0);
        CHECKS.due("7 7 is not possible", x.planned(7, 7), -5);
        CHECKS.due("5 5 is no wish", x.planned(5, 5), -5);
        CHECKS.due("no gap", x.count(7), 3);
    }

    private static void planChangesAlongAPath() {
        FenceHandshakes x = Setups.allLinked();
        Setups.addWishes(x, 00, 01, 10, 12, 21);
        // 2-1 gets 0 at once: 2 has no number, and 1 has only 1.
        CHECKS.due("2 1", x.planned(2, 1), 0);
        CHECKS.due("0 1", x.planned(0, 1), 1);
        // 3-0 wants 0, which 0-0 has; no other wish of the left person 0 has 2, so that the path ends there.
        x.wish(3, 0);
        CHECKS.due("3 0", x.planned(3, 0), 0);
        CHECKS.due("0 0", x.planned(0, 0), 2);
        CHECKS.due("1 0", x.planned(1, 0), 1);
        FenceHandshakes y = Setups.allLinked();
        // 2-0 wants 0; the path is 0-0 with 0, 0-1 with 1, 1-1 with 0, and all three exchange 0 and 1.
        Setups.addWishes(y, 00, 01, 11, 20);
        CHECKS.due("y 2 0", y.planned(2, 0), 0);
        CHECKS.due("y 0 0", y.planned(0, 0), 1);
        CHECKS.due("y 0 1", y.planned(0, 1), 0);
        CHECKS.due("y 1 1", y.planned(1, 1), 1);
    }

    private static void counts() {
        FenceHandshakes x = example();
        x.append('1');
        x.append('-');
        int[] want = {8, 6, 2, 15, 0, 0, 4, 3, 5, 2};
        for (int what = 0; what < 10; what++) {
            CHECKS.due("count " + what, x.count(what), want[what]);
        }
        x.round();
        int[] then = {4, 2, 2, 15, 1, 4, 1, 2, 5, 2};
        for (int what = 0; what < 10; what++) {
            CHECKS.due("count " + what + " after a round", x.count(what), then[what]);
        }
        x.undo();
        CHECKS.due("states after undo", x.count(8), 4);
        FenceHandshakes y = Setups.allLinked();
        Setups.addWishes(y, 05, 15, 25, 35, 45, 42);
        CHECKS.due("the greatest number is a right person's", y.count(7), 5);
        CHECKS.due("handshakes in the next round", y.count(6), 2);
    }

    private static void wrongArguments() {
        FenceHandshakes x = example();
        int[] wrong = {-1, 8, Integer.MIN_VALUE, Integer.MAX_VALUE};
        for (int w : wrong) {
            CHECKS.due("person " + w, x.person(true, w, 0), -1);
            CHECKS.due("right person " + w + " and what", x.person(false, w, 6), -1);
            CHECKS.due("pair " + w + " and what", x.pair(w, 0, 4), -1);
            CHECKS.due("pair of right " + w + " and what", x.pair(0, w, -1), -1);
            CHECKS.due("partner " + w, x.partner(true, w), -1);
            CHECKS.due("partner of right " + w, x.partner(false, w), -1);
            CHECKS.due("planned " + w, x.planned(w, 0), -1);
            CHECKS.due("planned right " + w, x.planned(0, w), -1);
        }
        int[] whats = {-1, 10, Integer.MIN_VALUE, Integer.MAX_VALUE};
        for (int w : whats) {
            CHECKS.due("person what " + w, x.person(true, 0, w), -2);
            CHECKS.due("pair what " + w, x.pair(0, 0, w), -2);
            CHECKS.due("count what " + w, x.count(w), -2);
        }
        CHECKS.due("person what 6", x.person(false, 7, 6), -2);
        CHECKS.due("pair what 4", x.pair(7, 7, 4), -2);
    }
}
