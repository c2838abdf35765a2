import java.util.ArrayList;
import java.util.List;
import java.util.function.ToIntFunction;

/** Terms, 'Actions and history', and promises 13 to 15: a test for each sentence that names a boundary case. */
public final class HistoryEdgesTest {
    private static final String HISTORY = "Actions and history";
    private static final Checks CHECKS = new Checks();

    public static void main(String[] args) {
        actions();
        room();
        undo("Promise 13");
        save("Promise 14");
        restore("Promise 15");
        CHECKS.end();
    }

    private static void actions() {
        CHECKS.sentence(HISTORY, "The actions are wish, withdraw, quarrel, reconcile, link, move, round, read and "
            + "restore.", HistoryEdgesTest::nineActions);
        CHECKS.sentence(HISTORY, "The actions are", HistoryEdgesTest::allOthersAreNone);
        CHECKS.sentence(HISTORY, "records the state before it in the history",
            HistoryEdgesTest::stateBeforeEachAction);
        CHECKS.sentence(HISTORY, "Each action that returns no error code records the state before it in the history, "
            + "even if the action changes nothing.", HistoryEdgesTest::actionsThatChangeNothing);
        CHECKS.sentence(HISTORY, "Each action that returns no error code",
            HistoryEdgesTest::refusedActionsRecordNothing);
        CHECKS.sentence(HISTORY, "The state consists of the gates of people, the links, the feuds, the open wishes, "
            + "the number of rounds, and the tallies.", HistoryEdgesTest::allOfTheState);
        CHECKS.sentence(HISTORY, "The text, the snapshot and the history itself are not part of the state.",
            HistoryEdgesTest::notOfTheState);
    }

    private static void room() {
        CHECKS.sentence(HISTORY, "The history holds at most 5 states", HistoryEdgesTest::atMostFiveStates);
        CHECKS.sentence(HISTORY, "when a sixth state is recorded, the oldest one is dropped",
            HistoryEdgesTest::sixthState);
        CHECKS.sentence(HISTORY, "the oldest one is dropped", HistoryEdgesTest::manyStatesMore);
        CHECKS.sentence(HISTORY, "the oldest one is dropped", HistoryEdgesTest::refusedSixthState);
        CHECKS.sentence(HISTORY, "The history holds at most 5 states", HistoryEdgesTest::undoMakesRoom);
    }

    private static void dueRecorded(String what, FenceHandshakes x, ToIntFunction<FenceHandshakes> action) {
        List<String> before = Pictures.ofState(x);
        int states = x.count(8);
        CHECKS.dueTrue(what + " is no error", action.applyAsInt(x) >= 0);
        CHECKS.due("states after " + what, x.count(8), states + 1);
        CHECKS.due("undo " + what, x.undo(), states);
        CHECKS.dueSame("the state after undo of " + what, Pictures.ofState(x), before);
    }

    private static void nineActions() {
        FenceHandshakes x = Setups.withText("0-0");
        int states = 0;
        x.save();
        CHECKS.due("at first", x.count(8), 0);
        x.wish(1, 1);
        CHECKS.due("wish", x.count(8), ++states);
        x.withdraw(1, 1);
        CHECKS.due("withdraw", x.count(8), ++states);
        x.quarrel(1, 1, 1);
        CHECKS.due("quarrel", x.count(8), ++states);
        x.reconcile(1, 1);
        CHECKS.due("reconcile", x.count(8), ++states);
        x.link(0, 1, true);
        CHECKS.due("link", x.count(8), ++states);
        states = x.undo();
        x.move(true, 0, 1);
        CHECKS.due("move", x.count(8), ++states);
        states = x.undo();
        x.round();
        CHECKS.due("round", x.count(8), ++states);
        states = x.undo();
        x.read();
        CHECKS.due("read", x.count(8), ++states);
        states = x.undo();
        x.restore();
        CHECKS.due("restore", x.count(8), ++states);
    }

    private static void allOthersAreNone() {
        FenceHandshakes x = new FenceHandshakes();
        Setups.addWishes(x, 00, 11);
        x.append('0');
        x.append('-');
        x.append('0');
        x.fault();
        x.clearText();
        x.save();
        CHECKS.due("text and save", x.count(8), 2);
        Pictures.ofState(x);
        CHECKS.due("queries of the state", x.count(8), 2);
        FenceHandshakes y = new FenceHandshakes();
        Setups.addWishes(y, 00, 11);
        Pictures.ofAnswers(y);
        CHECKS.due("all other queries", y.count(8), 2);
        y.undo();
        CHECKS.due("undo takes a state away", y.count(8), 1);
        y.undo();
        y.undo();
        CHECKS.due("undo of nothing", y.count(8), 0);
    }

    private static void stateBeforeEachAction() {
        dueRecorded("wish", new FenceHandshakes(), x -> x.wish(7, 7));
        FenceHandshakes wished = new FenceHandshakes();
        wished.wish(7, 7);
        dueRecorded("withdraw", wished, x -> x.withdraw(7, 7));
        dueRecorded("quarrel", new FenceHandshakes(), x -> x.quarrel(0, 7, 50));
        FenceHandshakes quarrelled = new FenceHandshakes();
        quarrelled.quarrel(7, 0, 50);
        dueRecorded("another quarrel", quarrelled, x -> x.quarrel(7, 0, 1));
        FenceHandshakes again = new FenceHandshakes();
        again.quarrel(7, 0, 50);
        dueRecorded("reconcile", again, x -> x.reconcile(7, 0));
        dueRecorded("link", new FenceHandshakes(), x -> x.link(3, 0, true));
        dueRecorded("unlink", new FenceHandshakes(), x -> x.link(3, 3, false));
        dueRecorded("move left", new FenceHandshakes(), x -> x.move(true, 7, 0));
        dueRecorded("move right", new FenceHandshakes(), x -> x.move(false, 0, 3));
        FenceHandshakes round = new FenceHandshakes();
        Setups.addWishes(round, 00, 77);
        round.quarrel(7, 7, 1);
        dueRecorded("round", round, x -> x.round());
        dueRecorded("read", Setups.withText("07-07"), x -> x.read());
        FenceHandshakes saved = new FenceHandshakes();
        saved.wish(0, 0);
        saved.save();
        saved.round();
        dueRecorded("restore", saved, x -> x.restore());
    }

    private static void actionsThatChangeNothing() {
        FenceHandshakes feud = new FenceHandshakes();
        feud.quarrel(3, 3, 50);
        dueRecorded("the same feud", feud, x -> x.quarrel(3, 3, 50));
        dueRecorded("a link that there is", new FenceHandshakes(), x -> x.link(0, 0, true));
        dueRecorded("a link that there is not", new FenceHandshakes(), x -> x.link(0, 3, false));
        dueRecorded("a left person that stays", new FenceHandshakes(), x -> x.move(true, 7, 3));
        dueRecorded("a right person that stays", new FenceHandshakes(), x -> x.move(false, 0, 0));
        dueRecorded("a round without wishes", new FenceHandshakes(), x -> x.round());
        FenceHandshakes read = Setups.withText("0-0");
        read.wish(0, 0);
        dueRecorded("a list whose wishes are open", read, x -> x.read());
        FenceHandshakes saved = new FenceHandshakes();
        saved.save();
        dueRecorded("the snapshot of this state", saved, x -> x.restore());
    }

    private static void refusedActionsRecordNothing() {
        FenceHandshakes x = Setups.withText("0-0,");
        x.wish(0, 0);
        List<ToIntFunction<FenceHandshakes>> refused = new ArrayList<>();
        refused.add(f -> f.wish(0, 0));
        refused.add(f -> f.wish(8, 0));
        refused.add(f -> f.withdraw(0, 1));
        refused.add(f -> f.withdraw(0, -1));
        refused.add(f -> f.quarrel(0, 8, 1));
        refused.add(f -> f.quarrel(0, 0, 0));
        refused.add(f -> f.quarrel(0, 0, 51));
        refused.add(f -> f.reconcile(0, 0));
        refused.add(f -> f.reconcile(-1, 0));
        refused.add(f -> f.link(4, 0, true));
        refused.add(f -> f.link(0, -1, false));
        refused.add(f -> f.move(true, 8, 0));
        refused.add(f -> f.move(false, 0, 4));
        refused.add(f -> f.read());
        refused.add(f -> f.restore());
        for (ToIntFunction<FenceHandshakes> call : refused) {
            CHECKS.dueTrue("an error code", call.applyAsInt(x) < 0);
            CHECKS.due("states", x.count(8), 1);
        }
        CHECKS.due("undo", x.undo(), 0);
        CHECKS.due("the wish is undone", x.count(0), 0);
    }

    /** Each of these actions changes another part of the state. */
    private static void changeAll(FenceHandshakes x) {
        x.move(true, 7, 0);
        x.link(3, 0, true);
        x.quarrel(6, 7, 50);
        x.wish(2, 2);
        x.round();
    }

    private static void allOfTheState() {
        FenceHandshakes x = new FenceHandshakes();
        Setups.addWishes(x, 00, 11);
        List<String> undone = Pictures.ofState(x);
        changeAll(x);
        for (int left = 4; left >= 0; left--) {
            CHECKS.due("undo", x.undo(), left);
        }
        CHECKS.dueSame("all undone", Pictures.ofState(x), undone);
        FenceHandshakes y = new FenceHandshakes();
        Setups.addWishes(y, 00, 11);
        List<String> saved = Pictures.ofState(y);
        y.save();
        changeAll(y);
        y.restore();
        CHECKS.dueSame("restored", Pictures.ofState(y), saved);
    }

    private static void notOfTheState() {
        FenceHandshakes text = new FenceHandshakes();
        text.save();
        text.wish(0, 0);
        Setups.type(text, "7-7");
        text.undo();
        CHECKS.due("the text stays with undo", text.count(9), 3);
        text.restore();
        CHECKS.due("the text stays with restore", text.count(9), 3);
        CHECKS.due("and is a list", text.read(), 1);
        FenceHandshakes snapshot = new FenceHandshakes();
        snapshot.wish(0, 0);
        snapshot.save();
        snapshot.undo();
        CHECKS.due("the snapshot stays with undo", snapshot.restore(), 1);
        FenceHandshakes history = new FenceHandshakes();
        history.save();
        Setups.addWishes(history, 00, 11, 22);
        history.restore();
        CHECKS.due("the history stays with restore", history.count(8), 4);
        CHECKS.due("undo restore", history.undo(), 3);
        CHECKS.due("three wishes", history.count(0), 3);
        CHECKS.due("the history is not that of then", history.undo(), 2);
        CHECKS.due("two wishes", history.count(0), 2);
    }

    private static void atMostFiveStates() {
        FenceHandshakes x = new FenceHandshakes();
        for (int n = 1; n <= 5; n++) {
            x.wish(0, n - 1);
            CHECKS.due("states after " + n, x.count(8), n);
        }
        for (int left = 4; left >= 0; left--) {
            CHECKS.due("undo", x.undo(), left);
            CHECKS.due("open", x.count(0), left);
        }
        CHECKS.due("the first state was held", x.count(0), 0);
        CHECKS.due("no more", x.undo(), -5);
    }

    private static void sixthState() {
        FenceHandshakes x = new FenceHandshakes();
        Setups.addWishes(x, 00, 01, 02, 03, 04, 05);
        CHECKS.due("five states", x.count(8), 5);
        for (int left = 4; left >= 0; left--) {
            CHECKS.due("undo", x.undo(), left);
            CHECKS.due("open", x.count(0), left + 1);
        }
        CHECKS.due("the state without wishes is dropped", x.undo(), -5);
        CHECKS.due("the first wish is open yet", x.pair(0, 0, 0), 1);
    }

    private static void manyStatesMore() {
        for (int actions = 0; actions <= 23; actions++) {
            FenceHandshakes x = new FenceHandshakes();
            for (int n = 0; n < actions; n++) {
                x.wish(n / 8, n % 8);
            }
            int states = Math.min(actions, 5);
            CHECKS.due("states after " + actions, x.count(8), states);
            for (int left = states - 1; left >= 0; left--) {
                CHECKS.due("undo after " + actions, x.undo(), left);
                CHECKS.due("open after " + actions, x.count(0), actions - states + left);
            }
            CHECKS.due("no more after " + actions, x.undo(), -5);
        }
    }

    private static void refusedSixthState() {
        FenceHandshakes x = Setups.withText("0-");
        Setups.addWishes(x, 00, 01, 02, 03, 04);
        x.wish(0, 0);
        x.withdraw(7, 7);
        x.quarrel(0, 0, 51);
        x.reconcile(0, 0);
        x.link(4, 4, true);
        x.move(true, 0, 4);
        x.read();
        x.restore();
        CHECKS.due("states", x.count(8), 5);
        for (int n = 0; n < 5; n++) {
            x.undo();
        }
        CHECKS.due("the oldest is there yet", x.count(0), 0);
    }

    private static void undoMakesRoom() {
        FenceHandshakes x = new FenceHandshakes();
        Setups.addWishes(x, 00, 01, 02, 03, 04, 05, 06);
        CHECKS.due("undo", x.undo(), 4);
        CHECKS.due("undo", x.undo(), 3);
        x.wish(7, 0);
        CHECKS.due("one more", x.count(8), 4);
        x.wish(7, 1);
        CHECKS.due("two more", x.count(8), 5);
        int[] open = {6, 5, 4, 3, 2};
        for (int n = 0; n < 5; n++) {
            CHECKS.due("undo " + n, x.undo(), 4 - n);
            CHECKS.due("open " + n, x.count(0), open[n]);
        }
        CHECKS.due("the oldest was not dropped again", x.undo(), -5);
        x.wish(7, 0);
        CHECKS.due("a first one again", x.count(8), 1);
    }

    private static void undo(String place) {
        CHECKS.sentence(place, "Restores the latest state of the history and removes it from the history.",
            HistoryEdgesTest::latestStateOnce);
        CHECKS.sentence(place, "The text and the snapshot do not change.", HistoryEdgesTest::textAndSnapshotStay);
        CHECKS.sentence(place, "Returns the number of states that are left in the history",
            HistoryEdgesTest::from4To0StatesLeft);
        CHECKS.sentence(place, "NONE if the history is empty", HistoryEdgesTest::emptyHistory);
    }

    private static void latestStateOnce() {
        FenceHandshakes x = new FenceHandshakes();
        x.move(true, 0, 1);
        x.move(true, 0, 2);
        x.move(true, 0, 3);
        for (int gate = 2; gate >= 0; gate--) {
            CHECKS.due("undo", x.undo(), gate);
            CHECKS.due("gate", x.person(true, 0, 0), gate);
        }
        // What was undone is not recorded, so that there is no way back to it.
        CHECKS.due("undo then", x.undo(), -5);
        CHECKS.due("gate then", x.person(true, 0, 0), 0);
    }

    private static void textAndSnapshotStay() {
        FenceHandshakes x = new FenceHandshakes();
        x.save();
        Setups.type(x, "0-07");
        x.read();
        CHECKS.due("undo", x.undo(), 0);
        CHECKS.due("length", x.count(9), 4);
        CHECKS.due("fault", x.fault(), -5);
        x.wish(3, 3);
        x.save();
        x.wish(4, 4);
        CHECKS.due("undo the fourth", x.undo(), 1);
        CHECKS.due("undo the third", x.undo(), 0);
        CHECKS.due("the latest snapshot", x.restore(), 1);
        CHECKS.due("its wish", x.pair(3, 3, 0), 1);
        FenceHandshakes y = new FenceHandshakes();
        y.wish(0, 0);
        y.undo();
        CHECKS.due("no snapshot comes from undo", y.restore(), -4);
    }

    private static void from4To0StatesLeft() {
        for (int states = 1; states <= 7; states++) {
            FenceHandshakes x = new FenceHandshakes();
            Setups.makeRounds(x, states);
            for (int left = Math.min(states, 5) - 1; left >= 0; left--) {
                CHECKS.due("undo after " + states, x.undo(), left);
                CHECKS.due("states after it", x.count(8), left);
            }
        }
    }

    private static void emptyHistory() {
        FenceHandshakes x = new FenceHandshakes();
        CHECKS.due("of a new object", x.undo(), -5);
        CHECKS.due("states", x.count(8), 0);
        x.wish(0, 0);
        x.undo();
        CHECKS.due("when all is undone", x.undo(), -5);
        CHECKS.due("and again", x.undo(), -5);
        CHECKS.due("an action", x.wish(0, 0), 1);
        CHECKS.due("that can be undone", x.undo(), 0);
        Pictures.dueUnchanged(CHECKS, "undo of a new object", FenceHandshakes::new, FenceHandshakes::undo);
        Pictures.dueUnchanged(CHECKS, "undo of an empty history", HistoryEdgesTest::undoneAsFarAsCanBe,
            FenceHandshakes::undo);
    }

    /** The history is empty, but the state is not that of a new object, as its older ones were dropped. */
    private static FenceHandshakes undoneAsFarAsCanBe() {
        FenceHandshakes x = Setups.eventful();
        for (int n = 0; n < 5; n++) {
            x.undo();
        }
        return x;
    }

    private static void save(String place) {
        CHECKS.sentence(place, "Takes a snapshot of the state, which replaces the previous snapshot.",
            HistoryEdgesTest::secondSnapshot);
        CHECKS.sentence(place, "This is not an action.", HistoryEdgesTest::saveIsNoAction);
        CHECKS.sentence(place, "Returns the number of open wishes.", HistoryEdgesTest::savesOf0To64Wishes);
    }

    private static void secondSnapshot() {
        FenceHandshakes x = new FenceHandshakes();
        x.save();
        Setups.addWishes(x, 00, 07);
        x.quarrel(7, 7, 50);
        x.save();
        x.round();
        x.withdraw(0, 7);
        CHECKS.due("the second", x.restore(), 2);
        CHECKS.due("its feud", x.pair(7, 7, 1), 50);
        CHECKS.due("its rounds", x.count(4), 0);
        x.withdraw(0, 0);
        x.save();
        x.save();
        x.withdraw(0, 7);
        CHECKS.due("the last", x.restore(), 1);
        CHECKS.due("its wish", x.pair(0, 7, 0), 1);
    }

    private static void saveIsNoAction() {
        FenceHandshakes x = new FenceHandshakes();
        x.save();
        CHECKS.due("nothing to undo", x.undo(), -5);
        Setups.addWishes(x, 00, 01, 02, 03, 04);
        x.save();
        CHECKS.due("five states", x.count(8), 5);
        for (int n = 0; n < 5; n++) {
            x.undo();
        }
        CHECKS.due("the oldest is there yet", x.count(0), 0);
    }

    private static void savesOf0To64Wishes() {
        FenceHandshakes x = new FenceHandshakes();
        CHECKS.due("none", x.save(), 0);
        for (int pair = 0; pair < 64; pair++) {
            x.wish(pair / 8, pair % 8);
            CHECKS.due("with the pair " + pair, x.save(), pair + 1);
        }
    }

    private static void restore(String place) {
        CHECKS.sentence(place, "Restores the state of the snapshot.", HistoryEdgesTest::wholeState);
        CHECKS.sentence(place, "The snapshot remains.", HistoryEdgesTest::restoredOften);
        CHECKS.sentence(place, "Returns the number of open wishes", HistoryEdgesTest::restoresOf0To64Wishes);
        CHECKS.sentence(place, "NOT_POSSIBLE if there is no snapshot", HistoryEdgesTest::noSnapshot);
    }

    private static void wholeState() {
        FenceHandshakes x = Setups.eventful();
        List<String> saved = Pictures.ofState(Setups.eventful());
        x.save();
        changeAll(x);
        x.reconcile(2, 4);
        x.restore();
        CHECKS.dueSame("the state", Pictures.ofState(x), saved);
    }

    private static void restoredOften() {
        FenceHandshakes x = new FenceHandshakes();
        Setups.addWishes(x, 00, 11);
        x.save();
        for (int n = 0; n < 8; n++) {
            CHECKS.due("a round", x.round(), 2);
            CHECKS.due("restore", x.restore(), 2);
            CHECKS.due("rounds", x.count(4), 0);
            CHECKS.due("handshakes", x.count(5), 0);
        }
        CHECKS.due("what comes behind it is not in it", x.wish(7, 7), 3);
        CHECKS.due("restore once more", x.restore(), 2);
        CHECKS.due("undo", x.undo(), 4);
        CHECKS.due("the state before it", x.count(0), 3);
        CHECKS.due("restore after undo", x.restore(), 2);
    }

    private static void restoresOf0To64Wishes() {
        FenceHandshakes none = new FenceHandshakes();
        none.save();
        none.wish(0, 0);
        CHECKS.due("none", none.restore(), 0);
        FenceHandshakes all = Setups.wishingAll();
        all.save();
        all.round();
        CHECKS.due("all", all.restore(), 64);
        CHECKS.due("all are open", all.count(0), 64);
    }

    private static void noSnapshot() {
        FenceHandshakes x = new FenceHandshakes();
        CHECKS.due("of a new object", x.restore(), -4);
        Setups.addWishes(x, 00, 11);
        CHECKS.due("with a history alone", x.restore(), -4);
        x.undo();
        x.round();
        CHECKS.due("after undo and round", x.restore(), -4);
        CHECKS.due("save", x.save(), 0);
        CHECKS.due("from then on", x.restore(), 0);
    }
}
