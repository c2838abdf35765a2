/** Promises 4 to 7. */
public final class FeudsAndGatesTest {
    private static final Checks CHECKS = new Checks();

    public static void main(String[] args) {
        quarrels();
        orderOfErrorsOfQuarrel();
        reconciliations();
        links();
        moves();
        wrongCallsChangeNothing();
        CHECKS.end();
    }

    private static void quarrels() {
        FenceHandshakes x = new FenceHandshakes();
        CHECKS.due("first feud", x.quarrel(0, 1, 50), 0);
        CHECKS.due("in place of it", x.quarrel(0, 1, 1), 50);
        CHECKS.due("a longer one", x.quarrel(0, 1, 7), 1);
        x.round();
        CHECKS.due("one round later", x.quarrel(0, 1, 2), 6);
        CHECKS.due("rounds left", x.pair(0, 1, 1), 2);
        CHECKS.due("another pair", x.pair(1, 0, 1), 0);
        CHECKS.due("can meet", x.person(true, 0, 5), 1);
        x.round();
        CHECKS.due("feuds yet", x.count(2), 1);
        x.round();
        CHECKS.due("the feud is over", x.quarrel(0, 1, 3), 0);
        CHECKS.due("feud over unlinked gates", x.quarrel(0, 7, 3), 0);
        CHECKS.due("feuds", x.count(2), 2);
    }

    private static void orderOfErrorsOfQuarrel() {
        FenceHandshakes x = new FenceHandshakes();
        CHECKS.due("wrong person and rounds", x.quarrel(8, 0, 0), -1);
        CHECKS.due("wrong right person and rounds", x.quarrel(0, -1, 51), -1);
        CHECKS.due("rounds 0", x.quarrel(0, 0, 0), -2);
        CHECKS.due("rounds 51", x.quarrel(0, 0, 51), -2);
        CHECKS.due("rounds least", x.quarrel(0, 0, Integer.MIN_VALUE), -2);
        CHECKS.due("feuds", x.count(2), 0);
        CHECKS.due("history", x.count(8), 0);
    }

    private static void reconciliations() {
        FenceHandshakes x = new FenceHandshakes();
        CHECKS.due("wrong left", x.reconcile(-1, 0), -1);
        CHECKS.due("wrong right", x.reconcile(0, 8), -1);
        CHECKS.due("no feud", x.reconcile(0, 0), -4);
        x.quarrel(5, 6, 20);
        x.quarrel(6, 5, 9);
        x.round();
        CHECKS.due("feud of 19 yet", x.reconcile(5, 6), 19);
        CHECKS.due("no more feud", x.reconcile(5, 6), -4);
        CHECKS.due("the other feud", x.pair(6, 5, 1), 8);
        CHECKS.due("history", x.count(8), 4);
    }

    private static void links() {
        FenceHandshakes x = new FenceHandshakes();
        CHECKS.due("link 0 0 again", x.link(0, 0, true), 1);
        CHECKS.due("records though nothing changes", x.count(8), 1);
        CHECKS.due("unlink 0 0", x.link(0, 0, false), 1);
        CHECKS.due("unlink 0 0 again", x.link(0, 0, false), 0);
        CHECKS.due("0 0 is unlinked", x.isLinked(0, 0), 0);
        CHECKS.due("link 1 3", x.link(1, 3, true), 0);
        CHECKS.due("1 3 is linked", x.isLinked(1, 3), 1);
        CHECKS.due("3 1 is not", x.isLinked(3, 1), 0);
        CHECKS.due("linked pairs", x.count(3), 4);
        CHECKS.due("2 can meet", x.person(true, 2, 5), 4 + 8 + 64 + 128);
        CHECKS.due("0 can meet", x.person(true, 0, 5), 0);
        CHECKS.due("right 7 can meet", x.person(false, 7, 5), 4 + 8 + 64 + 128);
        int[][] wrong = {{-1, 0}, {0, -1}, {4, 0}, {0, 4}, {Integer.MAX_VALUE, 0}, {0, Integer.MIN_VALUE}};
        for (int[] w : wrong) {
            CHECKS.due("link " + w[0] + " " + w[1], x.link(w[0], w[1], true), -1);
            CHECKS.due("unlink " + w[0] + " " + w[1], x.link(w[0], w[1], false), -1);
            CHECKS.due("isLinked " + w[0] + " " + w[1], x.isLinked(w[0], w[1]), -1);
        }
    }

    private static void moves() {
        FenceHandshakes x = new FenceHandshakes();
        for (int p = 0; p < 8; p++) {
            for (int gate = 0; gate < 4; gate++) {
                int before = gate == 0 ? p / 2 : gate - 1;
                CHECKS.due("move left " + p, x.move(true, p, gate), before);
                CHECKS.due("right gate of " + p, x.person(false, p, 0), p / 2);
            }
        }
        CHECKS.due("move right 0 to 3", x.move(false, 0, 3), 0);
        CHECKS.due("stay at 3", x.move(false, 0, 3), 3);
        CHECKS.due("right 0 can meet", x.person(false, 0, 5), 255);
        CHECKS.due("right 1 can meet", x.person(false, 1, 5), 0);
        CHECKS.due("left 4 can meet", x.person(true, 4, 5), 1 + 64 + 128);
    }

    private static void wrongCallsChangeNothing() {
        FenceHandshakes x = new FenceHandshakes();
        CHECKS.due("move -1", x.move(true, -1, 0), -1);
        CHECKS.due("move 8", x.move(false, 8, 0), -1);
        CHECKS.due("move to -1", x.move(true, 0, -1), -1);
        CHECKS.due("move to 4", x.move(false, 0, 4), -1);
        CHECKS.due("gate of left 0", x.person(true, 0, 0), 0);
        CHECKS.due("history", x.count(8), 0);
        CHECKS.due("linked pairs", x.count(3), 4);
        // A feud or a wish does not hinder anyone from moving.
        x.wish(0, 0);
        x.quarrel(0, 0, 4);
        CHECKS.due("move 0 to 2", x.move(true, 0, 2), 0);
        CHECKS.due("its feud", x.person(true, 0, 3), 1);
        CHECKS.due("its wish", x.person(true, 0, 1), 1);
        CHECKS.due("reason is the gates first", x.pair(0, 0, 3), 2);
    }
}
