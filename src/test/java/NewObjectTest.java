/** Promise 1 and the constants. */
public final class NewObjectTest {
    private static final Checks CHECKS = new Checks();

    public static void main(String[] args) {
        CHECKS.sentence("Errors", "The constants:", NewObjectTest::constants);
        CHECKS.sentence("Promise 1", "Creates two clans", NewObjectTest::people);
        CHECKS.sentence("Promise 1", "without wishes and feuds", NewObjectTest::pairsAndGates);
        CHECKS.sentence("Promise 1", "before the round 0", NewObjectTest::beforeTheFirstRound);
        CHECKS.sentence("Promise 1", "with an empty text", NewObjectTest::emptyText);
        CHECKS.sentence("Promise 1", "an empty history", NewObjectTest::emptyHistory);
        CHECKS.sentence("Promise 1", "without a snapshot", NewObjectTest::noSnapshot);
        CHECKS.sentence("Promise 1", "Creates two clans", NewObjectTest::numbersAboutAll);
        CHECKS.sentence("Promise 1", "Creates two clans", NewObjectTest::objectsAreApart);
        CHECKS.end();
    }

    private static void constants() {
        CHECKS.due("NO_SUCH", FenceHandshakes.NO_SUCH, -1);
        CHECKS.due("BAD_VALUE", FenceHandshakes.BAD_VALUE, -2);
        CHECKS.due("TOO_MANY", FenceHandshakes.TOO_MANY, -3);
        CHECKS.due("NOT_POSSIBLE", FenceHandshakes.NOT_POSSIBLE, -4);
        CHECKS.due("NONE", FenceHandshakes.NONE, -5);
    }

    private static void people() {
        FenceHandshakes x = new FenceHandshakes();
        int[] gates = {0, 0, 1, 1, 2, 2, 3, 3};
        int[] canMeet = {3, 3, 12, 12, 48, 48, 192, 192};
        for (int p = 0; p < 8; p++) {
            for (boolean isLeft : new boolean[] {true, false}) {
                CHECKS.due("gate of " + p, x.person(isLeft, p, 0), gates[p]);
                for (int what = 1; what <= 4; what++) {
                    CHECKS.due("person " + p + " what " + what, x.person(isLeft, p, what), 0);
                }
                CHECKS.due("whom " + p + " can meet", x.person(isLeft, p, 5), canMeet[p]);
                CHECKS.due("partner of " + p, x.partner(isLeft, p), -5);
            }
        }
    }

    private static void pairsAndGates() {
        FenceHandshakes x = new FenceHandshakes();
        for (int l = 0; l < 8; l++) {
            for (int r = 0; r < 8; r++) {
                CHECKS.due("wish of " + l + " and " + r, x.pair(l, r, 0), 0);
                CHECKS.due("feud of " + l + " and " + r, x.pair(l, r, 1), 0);
                CHECKS.due("handshakes of " + l + " and " + r, x.pair(l, r, 2), 0);
                CHECKS.due("reason of " + l + " and " + r, x.pair(l, r, 3), 1);
                CHECKS.due("plan of " + l + " and " + r, x.planned(l, r), -5);
            }
        }
        for (int l = 0; l < 4; l++) {
            for (int r = 0; r < 4; r++) {
                CHECKS.due("link of " + l + " and " + r, x.isLinked(l, r), l == r ? 1 : 0);
            }
        }
    }

    private static void beforeTheFirstRound() {
        FenceHandshakes x = new FenceHandshakes();
        CHECKS.due("rounds", x.count(4), 0);
        CHECKS.due("handshakes", x.count(5), 0);
        CHECKS.dueDouble("mean", x.mean(), 0.0);
    }

    private static void emptyText() {
        FenceHandshakes x = new FenceHandshakes();
        CHECKS.due("length", x.count(9), 0);
        CHECKS.due("fault", x.fault(), 0);
        CHECKS.due("read", x.read(), -100);
        CHECKS.due("clearText", x.clearText(), 0);
    }

    private static void emptyHistory() {
        FenceHandshakes x = new FenceHandshakes();
        CHECKS.due("states", x.count(8), 0);
        CHECKS.due("undo", x.undo(), -5);
    }

    private static void noSnapshot() {
        FenceHandshakes x = new FenceHandshakes();
        CHECKS.due("restore", x.restore(), -4);
        CHECKS.due("and again", x.restore(), -4);
    }

    private static void numbersAboutAll() {
        FenceHandshakes x = new FenceHandshakes();
        for (int what = 0; what < 10; what++) {
            CHECKS.due("count(" + what + ")", x.count(what), what == 3 ? 4 : 0);
        }
        CHECKS.due("hindered", x.hindered(), 0);
        CHECKS.due("doneIn", x.doneIn(), 0);
        CHECKS.due("bestLink", x.bestLink(), -5);
    }

    private static void objectsAreApart() {
        FenceHandshakes x = new FenceHandshakes();
        FenceHandshakes y = new FenceHandshakes();
        x.wish(0, 0);
        x.append('0');
        x.save();
        CHECKS.due("wishes of the other object", y.count(0), 0);
        CHECKS.due("text of the other object", y.count(9), 0);
        CHECKS.due("history of the other object", y.count(8), 0);
        CHECKS.due("snapshot of the other object", y.restore(), -4);
        y.round();
        CHECKS.due("rounds of the first object", x.count(4), 0);
        CHECKS.due("wishes of the first object", x.count(0), 1);
    }
}
