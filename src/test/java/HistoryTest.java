/** Promises 13 to 15. */
public final class HistoryTest {
    private static final Checks CHECKS = new Checks();

    public static void main(String[] args) {
        undoOfEachAction();
        sixthStateDropsTheOldest();
        errorsAndQueriesRecordNothing();
        undoOfManyTurns();
        snapshots();
        snapshotOutlastsUndo();
        CHECKS.end();
    }

    private static void undoOfEachAction() {
        FenceHandshakes x = new FenceHandshakes();
        x.wish(0, 0);
        CHECKS.due("undo wish", x.undo(), 0);
        CHECKS.due("no wish", x.count(0), 0);
        x.wish(0, 0);
        x.withdraw(0, 0);
        CHECKS.due("undo withdraw", x.undo(), 1);
        CHECKS.due("the wish", x.pair(0, 0, 0), 1);
        x.quarrel(0, 0, 9);
        CHECKS.due("undo quarrel", x.undo(), 1);
        CHECKS.due("no feud", x.count(2), 0);
        x.quarrel(3, 3, 9);
        x.reconcile(3, 3);
        CHECKS.due("undo reconcile", x.undo(), 2);
        CHECKS.due("the feud", x.pair(3, 3, 1), 9);
        x.link(0, 0, false);
        CHECKS.due("undo link", x.undo(), 2);
        CHECKS.due("the link", x.isLinked(0, 0), 1);
        x.move(false, 0, 3);
        CHECKS.due("undo move", x.undo(), 2);
        CHECKS.due("the gate", x.person(false, 0, 0), 0);
        CHECKS.due("round", x.round(), 1);
        CHECKS.due("undo round", x.undo(), 2);
        CHECKS.due("rounds", x.count(4), 0);
        CHECKS.due("handshakes", x.count(5), 0);
        CHECKS.due("handshakes of the pair", x.pair(0, 0, 2), 0);
        CHECKS.due("the wish again", x.pair(0, 0, 0), 1);
        CHECKS.due("the feud again", x.pair(3, 3, 1), 9);
        CHECKS.dueDouble("mean again", x.mean(), 0.0);
    }

    private static void sixthStateDropsTheOldest() {
        FenceHandshakes x = new FenceHandshakes();
        for (int r = 0; r < 7; r++) {
            x.wish(0, r);
            CHECKS.due("states", x.count(8), Math.min(r + 1, 5));
        }
        for (int left = 4; left >= 0; left--) {
            CHECKS.due("undo", x.undo(), left);
            CHECKS.due("open", x.count(0), 2 + left);
        }
        CHECKS.due("undo with an empty history", x.undo(), -5);
        CHECKS.due("open then", x.count(0), 2);
        CHECKS.due("wish 0 0 is older", x.pair(0, 0, 0), 1);
        CHECKS.due("wish 0 1 is older", x.pair(0, 1, 0), 1);
    }

    private static void errorsAndQueriesRecordNothing() {
        FenceHandshakes x = new FenceHandshakes();
        x.wish(0, 0);
        x.wish(0, 0);
        x.withdraw(0, 1);
        x.quarrel(0, 0, 51);
        x.reconcile(0, 0);
        x.link(4, 0, true);
        x.move(true, 0, 4);
        x.read();
        x.restore();
        x.append('0');
        x.fault();
        x.clearText();
        x.save();
        x.doneIn();
        x.bestLink();
        x.hindered();
        CHECKS.due("states", x.count(8), 1);
        CHECKS.due("undo", x.undo(), 0);
        CHECKS.due("undo is no action", x.count(8), 0);
    }

    private static void undoOfManyTurns() {
        FenceHandshakes x = new FenceHandshakes();
        for (int turn = 0; turn < 20; turn++) {
            x.move(true, 0, turn % 4);
            x.move(true, 1, (turn + 1) % 4);
            CHECKS.due("undo in turn " + turn, x.undo(), Math.min(turn + 1, 4));
            CHECKS.due("gate of 0 in turn " + turn, x.person(true, 0, 0), turn % 4);
            CHECKS.due("gate of 1 in turn " + turn, x.person(true, 1, 0), 0);
        }
    }

    private static void snapshots() {
        FenceHandshakes x = new FenceHandshakes();
        CHECKS.due("no snapshot", x.restore(), -4);
        CHECKS.due("history", x.count(8), 0);
        x.wish(0, 0);
        x.wish(1, 7);
        x.quarrel(5, 5, 5);
        x.move(false, 6, 0);
        x.link(2, 3, true);
        x.append('3');
        CHECKS.due("save", x.save(), 2);
        CHECKS.due("save is no action", x.count(8), 5);
        x.round();
        x.reconcile(5, 5);
        x.move(false, 6, 1);
        x.link(2, 3, false);
        x.append('-');
        CHECKS.due("restore", x.restore(), 2);
        CHECKS.due("wish", x.pair(0, 0, 0), 1);
        CHECKS.due("feud", x.pair(5, 5, 1), 5);
        CHECKS.due("gate", x.person(false, 6, 0), 0);
        CHECKS.due("link", x.isLinked(2, 3), 1);
        CHECKS.due("rounds", x.count(4), 0);
        CHECKS.due("handshakes", x.count(5), 0);
        CHECKS.due("the text is not restored", x.count(9), 2);
        CHECKS.due("history", x.count(8), 5);
        x.withdraw(1, 7);
        CHECKS.due("the snapshot remains", x.restore(), 2);
        CHECKS.due("undo restore", x.undo(), 4);
        CHECKS.due("open", x.count(0), 1);
        CHECKS.due("save anew", x.save(), 1);
        x.wish(2, 2);
        CHECKS.due("restore the new one", x.restore(), 1);
    }

    private static void snapshotOutlastsUndo() {
        FenceHandshakes x = new FenceHandshakes();
        x.wish(0, 0);
        x.save();
        x.undo();
        CHECKS.due("open after undo", x.count(0), 0);
        CHECKS.due("restore after undo", x.restore(), 1);
        CHECKS.due("undo that", x.undo(), 0);
        CHECKS.due("open then", x.count(0), 0);
        CHECKS.due("restore that changes nothing", x.restore(), 1);
        CHECKS.due("restore once more", x.restore(), 1);
        CHECKS.due("both are recorded", x.count(8), 2);
    }
}
