/** Promises 23 to 25. */
public final class WhatWouldBeTest {
    private static final Checks CHECKS = new Checks();

    public static void main(String[] args) {
        roundsUntilDone();
        neverDone();
        nothingIsChanged();
        bestLinks();
        noBestLink();
        means();
        CHECKS.end();
    }

    private static void roundsUntilDone() {
        FenceHandshakes x = Setups.allLinked();
        CHECKS.due("nothing to do", x.doneIn(), 0);
        x.wish(0, 0);
        CHECKS.due("one wish", x.doneIn(), 1);
        x.wish(0, 1);
        CHECKS.due("two of one person", x.doneIn(), 2);
        x.quarrel(0, 0, 50);
        CHECKS.due("after the feud", x.doneIn(), 51);
        for (int r = 1; r < 8; r++) {
            x.quarrel(0, r, 50);
            x.wish(0, r);
        }
        CHECKS.due("eight of one person after the feuds", x.doneIn(), 58);
        FenceHandshakes y = Setups.allLinked();
        for (int l = 0; l < 8; l++) {
            for (int r = 0; r < 8; r++) {
                y.wish(l, r);
            }
        }
        CHECKS.due("all 64", y.doneIn(), 8);
    }

    private static void neverDone() {
        FenceHandshakes x = new FenceHandshakes();
        x.wish(0, 0);
        x.wish(0, 7);
        CHECKS.due("over unlinked gates", x.doneIn(), -5);
        x.quarrel(0, 7, 5);
        CHECKS.due("also in a feud", x.doneIn(), -5);
        x.link(0, 3, true);
        CHECKS.due("linked, with the feud", x.doneIn(), 6);
        x.move(false, 7, 2);
        CHECKS.due("moved away", x.doneIn(), -5);
        x.withdraw(0, 7);
        CHECKS.due("withdrawn", x.doneIn(), 1);
    }

    private static void nothingIsChanged() {
        FenceHandshakes x = Setups.allLinked();
        Setups.addWishes(x, 00, 01, 10);
        x.quarrel(0, 0, 9);
        x.link(3, 3, false);
        x.doneIn();
        x.bestLink();
        CHECKS.due("open", x.count(0), 3);
        CHECKS.due("rounds", x.count(4), 0);
        CHECKS.due("handshakes", x.count(5), 0);
        CHECKS.due("feud", x.pair(0, 0, 1), 9);
        CHECKS.due("links", x.count(3), 15);
        CHECKS.due("save after it", x.save(), 3);
        x.doneIn();
        CHECKS.due("the snapshot is not the trial", x.restore(), 3);
        CHECKS.due("undo after it", x.undo(), 4);
    }

    private static void bestLinks() {
        FenceHandshakes x = new FenceHandshakes();
        x.wish(2, 6);
        CHECKS.due("gates 1 and 3", x.bestLink(), 7);
        x.wish(6, 2);
        CHECKS.due("the lowest of two", x.bestLink(), 7);
        x.wish(7, 3);
        CHECKS.due("the one that lets two more", x.bestLink(), 13);
        x.wish(0, 0);
        CHECKS.due("with one that takes place anyhow", x.bestLink(), 13);
        x.link(3, 1, true);
        CHECKS.due("then the other", x.bestLink(), 7);
        FenceHandshakes y = new FenceHandshakes();
        y.link(0, 0, false);
        y.wish(1, 1);
        CHECKS.due("gates 0 and 0", y.bestLink(), 0);
        y.move(true, 1, 3);
        y.move(false, 1, 3);
        y.link(3, 3, false);
        CHECKS.due("gates 3 and 3", y.bestLink(), 15);
    }

    private static void noBestLink() {
        FenceHandshakes x = Setups.allLinked();
        x.wish(0, 0);
        CHECKS.due("all are linked", x.bestLink(), -5);
        FenceHandshakes y = new FenceHandshakes();
        Setups.addWishes(y, 00, 02);
        CHECKS.due("0 shakes hands anyhow", y.bestLink(), -5);
        y.wish(5, 1);
        CHECKS.due("5 does not", y.bestLink(), 8);
        y.quarrel(5, 1, 3);
        CHECKS.due("but for the feud", y.bestLink(), -5);
    }

    private static void means() {
        FenceHandshakes x = Setups.allLinked();
        Setups.addWishes(x, 00, 11, 22, 30);
        CHECKS.dueDouble("before the first round", x.mean(), 0.0);
        x.round();
        CHECKS.dueDouble("after one", x.mean(), 3.0);
        x.round();
        CHECKS.dueDouble("after two", x.mean(), 2.0);
        x.round();
        CHECKS.dueDouble("after three", x.mean(), 4.0 / 3.0);
        x.undo();
        CHECKS.dueDouble("after undo", x.mean(), 2.0);
        FenceHandshakes y = new FenceHandshakes();
        y.round();
        CHECKS.dueDouble("a round without handshakes", y.mean(), 0.0);
        for (int n = 2; n < 7; n++) {
            y.round();
        }
        y.wish(0, 0);
        y.round();
        CHECKS.dueDouble("a seventh", y.mean(), 1.0 / 7.0);
    }
}
