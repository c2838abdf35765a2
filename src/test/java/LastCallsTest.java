/** An object is used for at most 512 calls: the last of them is answered as well as the first. */
public final class LastCallsTest {
    private static final String PLACE = "What it is";
    private static final String WORDS = "An object is used for at most 512 calls after it has been made";
    private static final int CALLS = 512;
    private static final Checks CHECKS = new Checks();

    public static void main(String[] args) {
        CHECKS.sentence(PLACE, WORDS, LastCallsTest::rounds);
        CHECKS.sentence(PLACE, WORDS, LastCallsTest::handshakes);
        CHECKS.sentence(PLACE, WORDS, LastCallsTest::wishesAndWithdrawals);
        CHECKS.sentence(PLACE, WORDS, LastCallsTest::characters);
        CHECKS.sentence(PLACE, WORDS, LastCallsTest::actionsAndUndos);
        CHECKS.sentence(PLACE, WORDS, LastCallsTest::savesAndRestores);
        CHECKS.end();
    }

    private static void rounds() {
        FenceHandshakes x = new FenceHandshakes();
        Setups.makeRounds(x, CALLS - 1);
        CHECKS.due("the rounds", x.count(4), 511);
    }

    private static void handshakes() {
        FenceHandshakes x = Setups.withText("0-0,2-2,4-4,6-6");
        for (int n = 0; n < 248; n++) {
            CHECKS.due("read", x.read(), 4);
            CHECKS.due("round", x.round(), 4);
        }
        // 15 characters, 496 calls, and one more.
        CHECKS.dueDouble("the mean", x.mean(), 4.0);
    }

    private static void wishesAndWithdrawals() {
        FenceHandshakes x = new FenceHandshakes();
        for (int n = 0; n < CALLS; n += 2) {
            CHECKS.due("wish", x.wish(7, n / 2 % 8), 1);
            CHECKS.due("withdraw", x.withdraw(7, n / 2 % 8), 0);
        }
    }

    private static void characters() {
        FenceHandshakes x = new FenceHandshakes();
        for (int n = 1; n <= CALLS; n++) {
            CHECKS.due("append the character " + n, x.append('~'), n <= 80 ? n : -3);
        }
    }

    private static void actionsAndUndos() {
        FenceHandshakes x = new FenceHandshakes();
        for (int n = 0; n < CALLS - 7; n++) {
            CHECKS.due("move", x.move(true, 0, n % 4), n == 0 ? 0 : (n - 1) % 4);
        }
        // The last move was to the gate 504 % 4, and five undos lead back to the gate 499 % 4.
        for (int left = 4; left >= 0; left--) {
            CHECKS.due("undo", x.undo(), left);
        }
        CHECKS.due("the gate", x.person(true, 0, 0), 3);
        CHECKS.due("undo no more", x.undo(), -5);
    }

    private static void savesAndRestores() {
        FenceHandshakes x = new FenceHandshakes();
        for (int n = 0; n < CALLS; n += 4) {
            CHECKS.due("save", x.save(), 0);
            CHECKS.due("wish", x.wish(0, 0), 1);
            CHECKS.due("restore", x.restore(), 0);
            CHECKS.due("states", x.count(8), n == 0 ? 2 : n == 4 ? 4 : 5);
        }
    }
}
