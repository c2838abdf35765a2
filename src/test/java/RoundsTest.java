/** Promise 8. */
public final class RoundsTest {
    private static final Checks CHECKS = new Checks();

    public static void main(String[] args) {
        firstOfTheGreatest();
        lesserPartnerAheadOfNone();
        laterOnesMakeRoom();
        exchangesFarAlong();
        longestExchange();
        feudsEnd();
        emptyRounds();
        CHECKS.end();
    }

    private static void firstOfTheGreatest() {
        FenceHandshakes x = Setups.allLinked();
        Setups.addWishes(x, 00, 01, 10);
        CHECKS.due("two shake hands", x.round(), 2);
        CHECKS.due("0 with 1", x.pair(0, 1, 2), 1);
        CHECKS.due("1 with 0", x.pair(1, 0, 2), 1);
        CHECKS.due("0 0 is open yet", x.pair(0, 0, 0), 1);
        CHECKS.due("0 1 is no longer open", x.pair(0, 1, 0), 0);
        CHECKS.due("open", x.count(0), 1);
        CHECKS.due("one more", x.round(), 1);
        CHECKS.due("open at last", x.count(0), 0);
        CHECKS.due("handshakes", x.count(5), 3);
        CHECKS.due("rounds", x.count(4), 2);
    }

    private static void lesserPartnerAheadOfNone() {
        FenceHandshakes x = Setups.allLinked();
        Setups.addWishes(x, 03, 13, 23, 12);
        // {03, 12} is the first of the two greatest ones, as 2 has no partner in it.
        CHECKS.due("two of three", x.round(), 2);
        CHECKS.due("0 3", x.pair(0, 3, 2), 1);
        CHECKS.due("1 2", x.pair(1, 2, 2), 1);
        CHECKS.due("2 3", x.pair(2, 3, 2), 0);
    }

    private static void laterOnesMakeRoom() {
        FenceHandshakes x = Setups.allLinked();
        // With 0-1 both 1-0, 2-2 and 1-2, 2-0 make three; 1 has the lesser partner in the former.
        Setups.addWishes(x, 00, 01, 10, 12, 20, 22);
        CHECKS.due("partner of 0", x.partner(true, 0), 1);
        CHECKS.due("partner of 1", x.partner(true, 1), 0);
        CHECKS.due("partner of 2", x.partner(true, 2), 2);
        CHECKS.due("reason of 1 2", x.pair(1, 2, 3), 4);
        FenceHandshakes y = Setups.allLinked();
        Setups.addWishes(y, 00, 01, 10, 12, 20, 22, 73, 71, 63);
        // Only four right people are wished for, so that one of five is left out: 2, as it comes behind 0 and 1.
        CHECKS.due("in the next round", y.count(6), 4);
        CHECKS.due("y partner of 0", y.partner(true, 0), 0);
        CHECKS.due("y round", y.round(), 4);
        CHECKS.due("y 1 2", y.pair(1, 2, 2), 1);
        CHECKS.due("y left 2", y.person(true, 2, 4), 0);
        CHECKS.due("y 6 3", y.pair(6, 3, 2), 1);
        CHECKS.due("y 7 1", y.pair(7, 1, 2), 1);
    }

    private static void longestExchange() {
        FenceHandshakes x = Setups.allLinked();
        // 7 can only have 6, for which each of the others in turn has to go to its other one.
        x.wish(0, 0);
        x.wish(0, 7);
        for (int l = 1; l < 7; l++) {
            x.wish(l, l);
            x.wish(l, l - 1);
        }
        CHECKS.due("partner of 6 before", x.partner(true, 6), 6);
        x.wish(7, 6);
        CHECKS.due("nobody is left out", x.hindered(), 0);
        CHECKS.due("partner of 0", x.partner(true, 0), 7);
        CHECKS.due("all eight", x.round(), 8);
        for (int l = 1; l < 8; l++) {
            CHECKS.due("handshake of " + l, x.pair(l, l - 1, 2), 1);
        }
    }

    private static void exchangesFarAlong() {
        FenceHandshakes x = Setups.allLinked();
        // A chain in which 7 has only the partner 0, so that each one has to yield to the next.
        for (int l = 0; l < 7; l++) {
            x.wish(l, l);
            x.wish(l, l + 1);
        }
        x.wish(7, 0);
        CHECKS.due("all eight", x.round(), 8);
        for (int l = 0; l < 7; l++) {
            CHECKS.due("partner of " + l, x.pair(l, l + 1, 2), 1);
            CHECKS.due("left over of " + l, x.pair(l, l, 0), 1);
        }
        CHECKS.due("partner of 7", x.pair(7, 0, 2), 1);
    }

    private static void feudsEnd() {
        FenceHandshakes x = new FenceHandshakes();
        x.quarrel(0, 0, 2);
        x.quarrel(1, 1, 50);
        Setups.addWishes(x, 00, 11);
        CHECKS.due("round 0", x.round(), 0);
        CHECKS.due("feud of 0 and 0", x.pair(0, 0, 1), 1);
        CHECKS.due("round 1, in which the feud lasts yet", x.round(), 0);
        CHECKS.due("feud is over", x.pair(0, 0, 1), 0);
        CHECKS.due("round 2", x.round(), 1);
        CHECKS.due("feud of 1 and 1", x.pair(1, 1, 1), 47);
        for (int n = 3; n < 50; n++) {
            CHECKS.due("round " + n, x.round(), 0);
        }
        CHECKS.due("round 50", x.round(), 1);
        CHECKS.due("rounds", x.count(4), 51);
    }

    private static void emptyRounds() {
        FenceHandshakes x = new FenceHandshakes();
        x.wish(0, 5);
        CHECKS.due("wish over unlinked gates", x.round(), 0);
        CHECKS.due("it is open yet", x.pair(0, 5, 0), 1);
        CHECKS.due("rounds", x.count(4), 1);
        CHECKS.due("an action", x.count(8), 2);
    }
}
