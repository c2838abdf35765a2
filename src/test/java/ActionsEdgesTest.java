/** Promises 2 to 8: a test for each sentence that names a boundary case. */
public final class ActionsEdgesTest {
    private static final Checks CHECKS = new Checks();

    public static void main(String[] args) {
        wish("Promise 2");
        withdraw("Promise 3");
        quarrel("Promise 4");
        reconcile("Promise 5");
        link("Promise 6");
        move("Promise 7");
        round("Promise 8");
        CHECKS.end();
    }

    private static void wish(String place) {
        CHECKS.sentence(place, "left: 0 to 7", () ->
            CHECKS.range("wish of left", 0, 7, -1, v -> new FenceHandshakes().wish(v, 3), v -> 1));
        CHECKS.sentence(place, "right: 0 to 7", () ->
            CHECKS.range("wish of right", 0, 7, -1, v -> new FenceHandshakes().wish(3, v), v -> 1));
        CHECKS.sentence(place, "Returns the number of open wishes", ActionsEdgesTest::from1To64Wishes);
        CHECKS.sentence(place, "NO_SUCH if there is no such person", ActionsEdgesTest::wishesOfNobody);
        CHECKS.sentence(place, "NOT_POSSIBLE if there is an open wish of this pair", ActionsEdgesTest::wishesTwice);
    }

    private static void from1To64Wishes() {
        FenceHandshakes x = new FenceHandshakes();
        for (int pair = 63; pair >= 0; pair--) {
            CHECKS.due("wish of the pair " + pair, x.wish(pair / 8, pair % 8), 64 - pair);
        }
        CHECKS.due("no 65th", x.wish(0, 0), -4);
        Setups.makeRounds(x, 2);
        // Over the gates that are linked at first, two by two shake hands in two rounds.
        CHECKS.due("one more than what the rounds left", x.wish(7, 7), 49);
    }

    private static void wishesOfNobody() {
        FenceHandshakes x = new FenceHandshakes();
        x.wish(1, 0);
        x.wish(6, 7);
        // Some of these would be other pairs if nobody looked at each of the two numbers.
        int[][] wrong = {{0, 8}, {1, -8}, {7, -1}, {2, -8}, {6, 8}, {-1, 8}, {-1, 16}, {8, -1}, {8, -64}, {8, 8},
            {-1, -1}};
        for (int[] w : wrong) {
            CHECKS.due("wish " + w[0] + " " + w[1], x.wish(w[0], w[1]), -1);
        }
        CHECKS.due("open", x.count(0), 2);
    }

    private static void wishesTwice() {
        int[] pairs = {00, 07, 70, 77, 34};
        for (int p : pairs) {
            FenceHandshakes x = new FenceHandshakes();
            x.wish(p / 10, p % 10);
            CHECKS.due(p + " again", x.wish(p / 10, p % 10), -4);
            x.quarrel(p / 10, p % 10, 1);
            CHECKS.due(p + " again in a feud", x.wish(p / 10, p % 10), -4);
            x.move(true, p / 10, 1);
            CHECKS.due(p + " again from another gate", x.wish(p / 10, p % 10), -4);
            x.withdraw(p / 10, p % 10);
            CHECKS.due(p + " after the withdrawal", x.wish(p / 10, p % 10), 1);
            CHECKS.due(p + " again after that", x.wish(p / 10, p % 10), -4);
        }
    }

    private static void withdraw(String place) {
        CHECKS.sentence(place, "left: 0 to 7", () ->
            CHECKS.range("withdraw of left", 0, 7, -1, v -> Setups.wishingAll().withdraw(v, 3), v -> 63));
        CHECKS.sentence(place, "right: 0 to 7", () ->
            CHECKS.range("withdraw of right", 0, 7, -1, v -> Setups.wishingAll().withdraw(3, v), v -> 63));
        CHECKS.sentence(place, "Returns the number of open wishes", ActionsEdgesTest::from63To0Wishes);
        CHECKS.sentence(place, "NO_SUCH if there is no such person", ActionsEdgesTest::withdrawalsOfNobody);
        CHECKS.sentence(place, "NOT_POSSIBLE if there is no open wish of this pair",
            ActionsEdgesTest::withdrawalsOfNothing);
    }

    private static void from63To0Wishes() {
        FenceHandshakes x = Setups.wishingAll();
        for (int left = 63; left >= 0; left--) {
            CHECKS.due("withdraw the pair " + left, x.withdraw(left / 8, left % 8), left);
        }
        CHECKS.due("nothing is left", x.withdraw(0, 0), -4);
        CHECKS.due("open", x.count(0), 0);
    }

    private static void withdrawalsOfNobody() {
        FenceHandshakes x = Setups.wishingAll();
        int[][] wrong = {{0, 8}, {7, -1}, {1, -8}, {-1, 8}, {8, -1}, {8, 8}, {-1, -1}};
        for (int[] w : wrong) {
            CHECKS.due("withdraw " + w[0] + " " + w[1], x.withdraw(w[0], w[1]), -1);
        }
        CHECKS.due("open", x.count(0), 64);
    }

    private static void withdrawalsOfNothing() {
        FenceHandshakes x = new FenceHandshakes();
        CHECKS.due("of a new object", x.withdraw(7, 7), -4);
        x.wish(7, 6);
        CHECKS.due("beside an open wish", x.withdraw(7, 7), -4);
        CHECKS.due("turned about", x.withdraw(6, 7), -4);
        x.round();
        CHECKS.due("after the handshake", x.withdraw(7, 6), -4);
        x.wish(0, 0);
        x.withdraw(0, 0);
        CHECKS.due("after the withdrawal", x.withdraw(0, 0), -4);
        x.undo();
        CHECKS.due("after undo", x.withdraw(0, 0), 0);
    }

    private static void quarrel(String place) {
        CHECKS.sentence(place, "left: 0 to 7", () ->
            CHECKS.range("quarrel of left", 0, 7, -1, v -> Setups.quarrelling(9).quarrel(v, 3, 1), v -> 9));
        CHECKS.sentence(place, "right: 0 to 7", () ->
            CHECKS.range("quarrel of right", 0, 7, -1, v -> Setups.quarrelling(9).quarrel(3, v, 1), v -> 9));
        CHECKS.sentence(place, "rounds: 1 to 50", () -> CHECKS.range("quarrel for", 1, 50, -2,
            v -> new FenceHandshakes().quarrel(0, 0, v), v -> 0));
        CHECKS.sentence(place, "NO_SUCH if there is no such person", ActionsEdgesTest::feudsOfNobody);
        CHECKS.sentence(place, "BAD_VALUE if rounds is out of range", ActionsEdgesTest::feudsOutOfRange);
        CHECKS.sentence(place, "Begins a feud, in place of one that there is.", ActionsEdgesTest::feudInPlaceOfAnother);
        CHECKS.sentence(place, "Returns the rounds that the previous feud would have lasted",
            ActionsEdgesTest::roundsOfThePreviousFeud);
        CHECKS.sentence(place, "0 if there was none", ActionsEdgesTest::noPreviousFeud);
    }

    private static void feudsOfNobody() {
        FenceHandshakes x = new FenceHandshakes();
        x.quarrel(1, 0, 9);
        int[][] wrong = {{0, 8}, {7, -1}, {1, -8}, {2, -8}, {-1, 8}, {-1, 16}, {8, -1}, {8, 8}, {-1, -1}};
        for (int[] w : wrong) {
            CHECKS.due("quarrel " + w[0] + " " + w[1], x.quarrel(w[0], w[1], 5), -1);
        }
        CHECKS.due("feuds", x.count(2), 1);
        CHECKS.due("the feud that there is", x.pair(1, 0, 1), 9);
    }

    private static void feudsOutOfRange() {
        int[] wrong = {0, -1, 51, 100, Integer.MIN_VALUE, Integer.MAX_VALUE};
        for (int rounds : wrong) {
            FenceHandshakes x = new FenceHandshakes();
            CHECKS.due("without a feud for " + rounds, x.quarrel(0, 0, rounds), -2);
            CHECKS.due("there is none then", x.pair(0, 0, 1), 0);
            x.quarrel(0, 0, 7);
            CHECKS.due("with a feud for " + rounds, x.quarrel(0, 0, rounds), -2);
            CHECKS.due("it stays", x.pair(0, 0, 1), 7);
        }
    }

    private static void feudInPlaceOfAnother() {
        FenceHandshakes x = new FenceHandshakes();
        x.quarrel(0, 0, 20);
        x.quarrel(7, 7, 30);
        CHECKS.due("where there is none", x.quarrel(7, 0, 50), 0);
        CHECKS.due("in place of the longest", x.quarrel(7, 0, 1), 50);
        CHECKS.due("the shorter one, not the sum or the greater", x.pair(7, 0, 1), 1);
        CHECKS.due("in place of the shortest", x.quarrel(7, 0, 50), 1);
        CHECKS.due("the longer one", x.pair(7, 0, 1), 50);
        CHECKS.due("three feuds", x.count(2), 3);
        CHECKS.due("turned about there is none", x.pair(0, 7, 1), 0);
    }

    private static void roundsOfThePreviousFeud() {
        for (int rounds = 1; rounds <= 50; rounds++) {
            FenceHandshakes x = new FenceHandshakes();
            x.quarrel(7, 7, rounds);
            CHECKS.due("previous feud of " + rounds, x.quarrel(7, 7, 51 - rounds), rounds);
            x.round();
            CHECKS.due("one round later", x.quarrel(7, 7, 1), 50 - rounds);
        }
    }

    private static void noPreviousFeud() {
        FenceHandshakes x = new FenceHandshakes();
        CHECKS.due("the first", x.quarrel(0, 0, 1), 0);
        CHECKS.due("the first of another pair", x.quarrel(0, 1, 1), 0);
        x.round();
        CHECKS.due("when it is over", x.quarrel(0, 0, 50), 0);
        x.reconcile(0, 0);
        CHECKS.due("when it was ended", x.quarrel(0, 0, 50), 0);
    }

    private static void reconcile(String place) {
        CHECKS.sentence(place, "left: 0 to 7", () ->
            CHECKS.range("reconcile left", 0, 7, -1, v -> Setups.quarrelling(50).reconcile(v, 3), v -> 50));
        CHECKS.sentence(place, "right: 0 to 7", () ->
            CHECKS.range("reconcile right", 0, 7, -1, v -> Setups.quarrelling(1).reconcile(3, v), v -> 1));
        CHECKS.sentence(place, "Returns the rounds that it would have lasted", ActionsEdgesTest::roundsOfTheEndedFeud);
        CHECKS.sentence(place, "NO_SUCH if there is no such person", ActionsEdgesTest::reconciliationsOfNobody);
        CHECKS.sentence(place, "NOT_POSSIBLE if there is no feud", ActionsEdgesTest::noFeudToEnd);
    }

    private static void roundsOfTheEndedFeud() {
        FenceHandshakes x = new FenceHandshakes();
        x.quarrel(0, 0, 50);
        x.quarrel(7, 7, 1);
        CHECKS.due("the greatest", x.reconcile(0, 0), 50);
        CHECKS.due("the least", x.reconcile(7, 7), 1);
        x.quarrel(0, 0, 50);
        x.quarrel(7, 7, 2);
        x.round();
        CHECKS.due("one round later", x.reconcile(0, 0), 49);
        CHECKS.due("in its last round", x.reconcile(7, 7), 1);
        CHECKS.due("feuds", x.count(2), 0);
    }

    private static void reconciliationsOfNobody() {
        FenceHandshakes x = Setups.quarrelling(2);
        int[][] wrong = {{0, 8}, {7, -1}, {1, -8}, {-1, 8}, {8, -1}, {8, 8}, {-1, -1}};
        for (int[] w : wrong) {
            CHECKS.due("reconcile " + w[0] + " " + w[1], x.reconcile(w[0], w[1]), -1);
        }
        CHECKS.due("feuds", x.count(2), 64);
    }

    private static void noFeudToEnd() {
        FenceHandshakes x = new FenceHandshakes();
        CHECKS.due("of a new object", x.reconcile(7, 7), -4);
        x.quarrel(7, 6, 1);
        CHECKS.due("beside a feud", x.reconcile(7, 7), -4);
        CHECKS.due("turned about", x.reconcile(6, 7), -4);
        x.round();
        CHECKS.due("when it is over", x.reconcile(7, 6), -4);
        x.quarrel(0, 0, 50);
        x.reconcile(0, 0);
        CHECKS.due("when it was ended", x.reconcile(0, 0), -4);
    }

    private static void link(String place) {
        CHECKS.sentence(place, "left: 0 to 3, a left gate", () ->
            CHECKS.range("link left", 0, 3, -1, v -> new FenceHandshakes().link(v, 3, true), v -> v == 3 ? 1 : 0));
        CHECKS.sentence(place, "right: 0 to 3, a right gate", () ->
            CHECKS.range("unlink right", 0, 3, -1, v -> new FenceHandshakes().link(0, v, false), v -> v == 0 ? 1 : 0));
        CHECKS.sentence(place, "isLinked: whether they are linked then", ActionsEdgesTest::linkedThen);
        CHECKS.sentence(place, "Returns 1 if they were linked before, otherwise 0", ActionsEdgesTest::linkedBefore);
        CHECKS.sentence(place, "NO_SUCH if there is no such gate", ActionsEdgesTest::linksOfNoGate);
    }

    private static void linkedThen() {
        for (int link = 0; link < 16; link++) {
            FenceHandshakes x = new FenceHandshakes();
            for (boolean isLinked : new boolean[] {true, true, false, false, true}) {
                x.link(link / 4, link % 4, isLinked);
                CHECKS.due("link " + link, x.isLinked(link / 4, link % 4), isLinked ? 1 : 0);
            }
        }
    }

    private static void linkedBefore() {
        int[] links = {0, 3, 12, 15};
        for (int link : links) {
            FenceHandshakes x = new FenceHandshakes();
            x.link(link / 4, link % 4, true);
            CHECKS.due("linked again, " + link, x.link(link / 4, link % 4, true), 1);
            CHECKS.due("unlinked, " + link, x.link(link / 4, link % 4, false), 1);
            CHECKS.due("unlinked again, " + link, x.link(link / 4, link % 4, false), 0);
            CHECKS.due("linked, " + link, x.link(link / 4, link % 4, true), 0);
        }
    }

    private static void linksOfNoGate() {
        FenceHandshakes x = new FenceHandshakes();
        int[][] wrong = {{0, 4}, {1, -4}, {4, 0}, {-1, 4}, {3, -1}, {-1, 0}, {4, 4}, {4, -1}, {-1, -1}};
        for (int[] w : wrong) {
            CHECKS.due("link " + w[0] + " " + w[1], x.link(w[0], w[1], true), -1);
            CHECKS.due("unlink " + w[0] + " " + w[1], x.link(w[0], w[1], false), -1);
        }
        CHECKS.due("linked pairs", x.count(3), 4);
    }

    private static void move(String place) {
        CHECKS.sentence(place, "person: 0 to 7", () -> {
            CHECKS.range("move left", 0, 7, -1, v -> new FenceHandshakes().move(true, v, 0), v -> v / 2);
            CHECKS.range("move right", 0, 7, -1, v -> new FenceHandshakes().move(false, v, 3), v -> v / 2);
        });
        CHECKS.sentence(place, "gate: 0 to 3", () -> {
            CHECKS.range("move left 7 to", 0, 3, -1, v -> new FenceHandshakes().move(true, 7, v), v -> 3);
            CHECKS.range("move right 0 to", 0, 3, -1, v -> new FenceHandshakes().move(false, 0, v), v -> 0);
        });
        CHECKS.sentence(place, "isLeft: whether a left person is meant; otherwise a right one",
            ActionsEdgesTest::movesOfOneSide);
        CHECKS.sentence(place, "Returns the previous gate", ActionsEdgesTest::previousGates);
        CHECKS.sentence(place, "NO_SUCH if there is no such person or gate", ActionsEdgesTest::movesOfNobody);
    }

    private static void movesOfOneSide() {
        for (int p = 0; p < 8; p++) {
            FenceHandshakes x = new FenceHandshakes();
            int gate = 3 - p / 2;
            x.move(p % 2 == 0, p, gate);
            for (int q = 0; q < 8; q++) {
                boolean isMovedLeft = q == p && p % 2 == 0;
                boolean isMovedRight = q == p && p % 2 == 1;
                CHECKS.due("gate of left " + q, x.person(true, q, 0), isMovedLeft ? gate : q / 2);
                CHECKS.due("gate of right " + q, x.person(false, q, 0), isMovedRight ? gate : q / 2);
            }
        }
    }

    private static void previousGates() {
        FenceHandshakes x = new FenceHandshakes();
        int before = 3;
        int[] gates = {0, 3, 3, 1, 2, 0, 0};
        for (int gate : gates) {
            CHECKS.due("move left 7 to " + gate, x.move(true, 7, gate), before);
            CHECKS.due("it is there", x.person(true, 7, 0), gate);
            before = gate;
        }
        for (int p = 0; p < 8; p++) {
            x.move(false, p, 2);
        }
        CHECKS.due("all eight at a gate", x.person(true, 4, 5), 255);
    }

    private static void movesOfNobody() {
        FenceHandshakes x = new FenceHandshakes();
        int[][] wrong = {{-1, 0}, {8, 0}, {0, -1}, {0, 4}, {8, 4}, {-1, -1}, {-1, 4}};
        for (int[] w : wrong) {
            CHECKS.due("move left " + w[0] + " to " + w[1], x.move(true, w[0], w[1]), -1);
            CHECKS.due("move right " + w[0] + " to " + w[1], x.move(false, w[0], w[1]), -1);
        }
        for (int p = 0; p < 8; p++) {
            CHECKS.due("gate of left " + p, x.person(true, p, 0), p / 2);
            CHECKS.due("gate of right " + p, x.person(false, p, 0), p / 2);
        }
    }

    private static void round(String place) {
        CHECKS.sentence(place, "Returns the number of handshakes in it.", ActionsEdgesTest::from0To8Handshakes);
    }

    private static void from0To8Handshakes() {
        for (int wishes = 0; wishes <= 8; wishes++) {
            FenceHandshakes x = new FenceHandshakes();
            for (int p = 0; p < wishes; p++) {
                x.wish(7 - p, 7 - p);
            }
            CHECKS.due("a round with " + wishes, x.round(), wishes);
            CHECKS.due("the next one", x.round(), 0);
            CHECKS.due("handshakes", x.count(5), wishes);
        }
    }
}
