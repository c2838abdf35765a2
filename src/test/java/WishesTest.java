/** Promises 2 and 3. */
public final class WishesTest {
    private static final Checks CHECKS = new Checks();

    public static void main(String[] args) {
        wishes();
        wrongPeople();
        wishesMayBeImpossible();
        withdrawals();
        CHECKS.end();
    }

    private static void wishes() {
        FenceHandshakes x = new FenceHandshakes();
        int n = 0;
        for (int l = 7; l >= 0; l--) {
            for (int r = 0; r < 8; r++) {
                n++;
                CHECKS.due("wish " + l + " " + r, x.wish(l, r), n);
                CHECKS.due("wish " + l + " " + r + " again", x.wish(l, r), -4);
                CHECKS.due("open wishes", x.count(0), n);
                CHECKS.due("the wish is open", x.pair(l, r, 0), 1);
            }
        }
        CHECKS.due("history", x.count(8), 5);
    }

    private static void wrongPeople() {
        int[][] wrong = {{-1, 0}, {0, -1}, {8, 0}, {0, 8}, {8, 8}, {Integer.MIN_VALUE, 0}, {0, Integer.MAX_VALUE}};
        FenceHandshakes x = new FenceHandshakes();
        x.wish(0, 0);
        for (int[] w : wrong) {
            CHECKS.due("wish " + w[0] + " " + w[1], x.wish(w[0], w[1]), -1);
            CHECKS.due("withdraw " + w[0] + " " + w[1], x.withdraw(w[0], w[1]), -1);
        }
        CHECKS.due("open wishes after wrong calls", x.count(0), 1);
        CHECKS.due("history after wrong calls", x.count(8), 1);
        CHECKS.due("wish that is open", x.wish(0, 0), -4);
        CHECKS.due("withdraw what is not open", x.withdraw(0, 1), -4);
        CHECKS.due("history after impossible calls", x.count(8), 1);
    }

    private static void wishesMayBeImpossible() {
        FenceHandshakes x = new FenceHandshakes();
        CHECKS.due("wish over unlinked gates", x.wish(0, 7), 1);
        x.quarrel(0, 0, 3);
        CHECKS.due("wish in a feud", x.wish(0, 0), 2);
        CHECKS.due("possible ones", x.count(1), 0);
        CHECKS.due("that wish again", x.wish(0, 7), -4);
    }

    private static void withdrawals() {
        FenceHandshakes x = new FenceHandshakes();
        x.wish(3, 2);
        x.wish(2, 3);
        x.wish(7, 0);
        CHECKS.due("withdraw 2 3", x.withdraw(2, 3), 2);
        CHECKS.due("2 3 is not open", x.pair(2, 3, 0), 0);
        CHECKS.due("3 2 is open", x.pair(3, 2, 0), 1);
        CHECKS.due("withdraw 2 3 again", x.withdraw(2, 3), -4);
        CHECKS.due("withdraw 7 0", x.withdraw(7, 0), 1);
        CHECKS.due("withdraw 3 2", x.withdraw(3, 2), 0);
        CHECKS.due("wish 3 2 again", x.wish(3, 2), 1);
        x.round();
        CHECKS.due("withdraw what is fulfilled", x.withdraw(3, 2), -4);
        CHECKS.due("wish anew after the handshake", x.wish(3, 2), 1);
    }
}
