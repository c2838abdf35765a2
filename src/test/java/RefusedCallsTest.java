import java.util.ArrayList;
import java.util.List;
import java.util.function.Supplier;
import java.util.function.ToIntFunction;

/** Terms, 'Errors': what a refused call leaves unchanged, and which of two error codes comes first. */
public final class RefusedCallsTest {
    private static final String ERRORS = "Errors";
    private static final String FIRST = "The error codes of a method are listed in the order in which they are "
        + "checked, and the first one that applies is returned.";
    private static final Checks CHECKS = new Checks();
    private static final int[] NOBODY = {-1, 8, Integer.MIN_VALUE, Integer.MAX_VALUE};
    private static final int[] NO_GATE = {-1, 4, Integer.MIN_VALUE, Integer.MAX_VALUE};

    public static void main(String[] args) {
        nothingChanges();
        firstCodes();
        CHECKS.sentence(ERRORS, "NONE is not an error code.", RefusedCallsTest::noneIsNoError);
        CHECKS.sentence("The public face", "queries; they change nothing", RefusedCallsTest::queriesChangeNothing);
        CHECKS.sentence("The public face", "what would be; nothing is changed",
            RefusedCallsTest::whatWouldBeChangesNothing);
        CHECKS.end();
    }

    /** New, in the midst of events, and with a text that has no room left. */
    private static List<Supplier<FenceHandshakes>> allSetups() {
        List<Supplier<FenceHandshakes>> setups = new ArrayList<>();
        setups.add(FenceHandshakes::new);
        setups.add(Setups::eventful);
        setups.add(Setups::eventfulWithFullText);
        return setups;
    }

    private static void dueRefusedEverywhere(String what, int code, ToIntFunction<FenceHandshakes> call) {
        for (Supplier<FenceHandshakes> setup : allSetups()) {
            dueRefused(what, code, setup, call);
        }
    }

    private static void dueRefused(String what, int code, Supplier<FenceHandshakes> setup,
            ToIntFunction<FenceHandshakes> call) {
        CHECKS.due(what, call.applyAsInt(setup.get()), code);
        Pictures.dueUnchanged(CHECKS, what, setup, call);
    }

    private static void nothingChanges() {
        nothingChangesWith("wish", RefusedCallsTest::refusedWish);
        nothingChangesWith("withdraw", RefusedCallsTest::refusedWithdraw);
        nothingChangesWith("quarrel", RefusedCallsTest::refusedQuarrel);
        nothingChangesWith("reconcile", RefusedCallsTest::refusedReconcile);
        nothingChangesWith("link", RefusedCallsTest::refusedLink);
        nothingChangesWith("move", RefusedCallsTest::refusedMove);
        nothingChangesWith("append", RefusedCallsTest::refusedAppend);
        nothingChangesWith("read", RefusedCallsTest::refusedRead);
        nothingChangesWith("restore", RefusedCallsTest::refusedRestore);
        nothingChangesWith("person and partner", RefusedCallsTest::refusedQueriesOfPeople);
        nothingChangesWith("pair and planned", RefusedCallsTest::refusedQueriesOfPairs);
        nothingChangesWith("isLinked and count", RefusedCallsTest::refusedQueriesOfNumbers);
    }

    private static void nothingChangesWith(String call, Runnable test) {
        CHECKS.sentence(ERRORS + ", " + call, "A method that returns an error code changes nothing.", test);
    }

    private static void refusedWish() {
        for (int n : NOBODY) {
            dueRefusedEverywhere("wish of left " + n, -1, x -> x.wish(n, 0));
            dueRefusedEverywhere("wish of right " + n, -1, x -> x.wish(7, n));
        }
        dueRefused("wish that is open", -4, Setups::eventful, x -> x.wish(7, 7));
        dueRefused("wish that is open and not possible", -4, Setups::eventful, x -> x.wish(2, 7));
        dueRefused("wish that is open in a feud", -4, Setups::eventful, x -> x.wish(6, 6));
        dueRefused("wish when all are open", -4, Setups::wishingAll, x -> x.wish(0, 0));
    }

    private static void refusedWithdraw() {
        for (int n : NOBODY) {
            dueRefusedEverywhere("withdraw of left " + n, -1, x -> x.withdraw(n, 7));
            dueRefusedEverywhere("withdraw of right " + n, -1, x -> x.withdraw(0, n));
        }
        dueRefusedEverywhere("withdraw what is not open", -4, x -> x.withdraw(7, 6));
        dueRefused("withdraw what is fulfilled", -4, Setups::eventful, x -> x.withdraw(4, 4));
        dueRefused("withdraw what is withdrawn", -4, Setups::eventful, x -> x.withdraw(4, 5));
    }

    private static void refusedQuarrel() {
        for (int n : NOBODY) {
            dueRefusedEverywhere("quarrel of left " + n, -1, x -> x.quarrel(n, 0, 50));
            dueRefusedEverywhere("quarrel of right " + n, -1, x -> x.quarrel(7, n, 1));
        }
        int[] wrong = {0, 51, -1, Integer.MIN_VALUE, Integer.MAX_VALUE};
        for (int rounds : wrong) {
            dueRefusedEverywhere("quarrel for " + rounds, -2, x -> x.quarrel(7, 0, rounds));
            dueRefused("quarrel in a feud for " + rounds, -2, Setups::eventful, x -> x.quarrel(2, 4, rounds));
        }
    }

    private static void refusedReconcile() {
        for (int n : NOBODY) {
            dueRefusedEverywhere("reconcile left " + n, -1, x -> x.reconcile(n, 7));
            dueRefusedEverywhere("reconcile right " + n, -1, x -> x.reconcile(0, n));
        }
        dueRefusedEverywhere("reconcile without feud", -4, x -> x.reconcile(7, 7));
        dueRefusedEverywhere("reconcile those turned about", -4, x -> x.reconcile(4, 2));
    }

    private static void refusedLink() {
        for (int n : NO_GATE) {
            for (boolean isLinked : new boolean[] {true, false}) {
                dueRefusedEverywhere("link left " + n, -1, x -> x.link(n, 0, isLinked));
                dueRefusedEverywhere("link right " + n, -1, x -> x.link(3, n, isLinked));
            }
        }
    }

    private static void refusedMove() {
        for (boolean isLeft : new boolean[] {true, false}) {
            for (int n : NOBODY) {
                dueRefusedEverywhere("move " + n, -1, x -> x.move(isLeft, n, 1));
            }
            for (int n : NO_GATE) {
                dueRefusedEverywhere("move to " + n, -1, x -> x.move(isLeft, 0, n));
                dueRefusedEverywhere("move 7 to " + n, -1, x -> x.move(isLeft, 7, n));
            }
        }
    }

    private static void refusedAppend() {
        int[] wrong = {31, 127, -1, 0, 256 + '0', Integer.MIN_VALUE, Integer.MAX_VALUE};
        for (int c : wrong) {
            dueRefusedEverywhere("append " + c, -2, x -> x.append(c));
        }
        int[] good = {32, ',', '0', '7', 126};
        for (int c : good) {
            dueRefused("append " + c + " to a full list", -3, Setups::eventfulWithFullText, x -> x.append(c));
            dueRefused("append " + c + " to a full fault", -3, Setups::eventfulWithFullFault, x -> x.append(c));
        }
    }

    private static FenceHandshakes eventfulWithText(String text) {
        FenceHandshakes x = Setups.eventful();
        x.clearText();
        Setups.type(x, text);
        return x;
    }

    private static void refusedRead() {
        dueRefused("read the empty text", -100, FenceHandshakes::new, FenceHandshakes::read);
        dueRefused("read a text that was emptied", -100, () -> eventfulWithText(""), FenceHandshakes::read);
        dueRefused("read a full text without list", -180, Setups::eventfulWithFullFault, FenceHandshakes::read);
        dueRefused("read a wrong first character", -100, () -> eventfulWithText("80-0"), FenceHandshakes::read);
        dueRefused("read a wrong last character", -107, () -> eventfulWithText("0-0,1-1-"), FenceHandshakes::read);
        dueRefused("read half a group", -106, () -> eventfulWithText("0-0,1-"), FenceHandshakes::read);
    }

    private static void refusedRestore() {
        dueRefused("restore of a new object", -4, FenceHandshakes::new, FenceHandshakes::restore);
        dueRefused("restore with a full history", -4, () -> {
            FenceHandshakes x = Setups.withText("0-07");
            x.quarrel(3, 3, 50);
            Setups.addWishes(x, 00, 11, 22);
            x.round();
            x.move(true, 7, 0);
            return x;
        }, FenceHandshakes::restore);
    }

    private static void refusedQueriesOfPeople() {
        for (boolean isLeft : new boolean[] {true, false}) {
            for (int n : NOBODY) {
                dueRefused("person " + n, -1, Setups::eventful, x -> x.person(isLeft, n, 5));
                dueRefused("partner of " + n, -1, Setups::eventful, x -> x.partner(isLeft, n));
            }
            int[] wrong = {-1, 6, Integer.MIN_VALUE, Integer.MAX_VALUE};
            for (int what : wrong) {
                dueRefused("person and what " + what, -2, Setups::eventful, x -> x.person(isLeft, 7, what));
            }
        }
    }

    private static void refusedQueriesOfPairs() {
        for (int n : NOBODY) {
            dueRefused("pair of left " + n, -1, Setups::eventful, x -> x.pair(n, 0, 3));
            dueRefused("pair of right " + n, -1, Setups::eventful, x -> x.pair(7, n, 3));
            dueRefused("planned of left " + n, -1, Setups::eventful, x -> x.planned(n, 0));
            dueRefused("planned of right " + n, -1, Setups::eventful, x -> x.planned(7, n));
        }
        int[] wrong = {-1, 4, Integer.MIN_VALUE, Integer.MAX_VALUE};
        for (int what : wrong) {
            dueRefused("pair and what " + what, -2, Setups::eventful, x -> x.pair(7, 7, what));
        }
    }

    private static void refusedQueriesOfNumbers() {
        for (int n : NO_GATE) {
            dueRefused("isLinked left " + n, -1, Setups::eventful, x -> x.isLinked(n, 0));
            dueRefused("isLinked right " + n, -1, Setups::eventful, x -> x.isLinked(3, n));
        }
        int[] wrong = {-1, 10, Integer.MIN_VALUE, Integer.MAX_VALUE};
        for (int what : wrong) {
            dueRefused("count and what " + what, -2, Setups::eventful, x -> x.count(what));
        }
    }

    private static void firstCodes() {
        firstCodeOf("wish", RefusedCallsTest::nobodyBeforeOpenWish);
        firstCodeOf("withdraw", RefusedCallsTest::nobodyBeforeNoWish);
        firstCodeOf("quarrel", RefusedCallsTest::nobodyBeforeRounds);
        firstCodeOf("reconcile", RefusedCallsTest::nobodyBeforeNoFeud);
        firstCodeOf("append", RefusedCallsTest::characterBeforeRoom);
        firstCodeOf("person", RefusedCallsTest::nobodyBeforeWhatOfAPerson);
        firstCodeOf("pair", RefusedCallsTest::nobodyBeforeWhatOfAPair);
        firstCodeOf("partner and planned", RefusedCallsTest::nobodyBeforeNone);
    }

    private static void firstCodeOf(String call, Runnable test) {
        CHECKS.sentence(ERRORS + ", " + call, FIRST, test);
    }

    private static void nobodyBeforeOpenWish() {
        // 8 behind 0 and -1 ahead of 7 would be other pairs if nobody looked at each of the two numbers.
        for (int n : NOBODY) {
            CHECKS.due("left " + n, Setups.wishingAll().wish(n, 7), -1);
            CHECKS.due("right " + n, Setups.wishingAll().wish(0, n), -1);
        }
        CHECKS.due("1 and -1", Setups.wishingAll().wish(1, -1), -1);
        CHECKS.due("-1 and 8", Setups.wishingAll().wish(-1, 8), -1);
    }

    private static void nobodyBeforeNoWish() {
        for (int n : NOBODY) {
            CHECKS.due("left " + n, new FenceHandshakes().withdraw(n, 7), -1);
            CHECKS.due("right " + n, new FenceHandshakes().withdraw(0, n), -1);
        }
    }

    private static void nobodyBeforeRounds() {
        int[] wrong = {0, 51, Integer.MIN_VALUE, Integer.MAX_VALUE};
        for (int rounds : wrong) {
            for (int n : NOBODY) {
                CHECKS.due("left " + n + " for " + rounds, new FenceHandshakes().quarrel(n, 7, rounds), -1);
                CHECKS.due("right " + n + " for " + rounds, new FenceHandshakes().quarrel(0, n, rounds), -1);
            }
            CHECKS.due("the rounds alone, " + rounds, new FenceHandshakes().quarrel(0, 7, rounds), -2);
        }
    }

    private static void nobodyBeforeNoFeud() {
        for (int n : NOBODY) {
            CHECKS.due("left " + n, new FenceHandshakes().reconcile(n, 7), -1);
            CHECKS.due("right " + n, new FenceHandshakes().reconcile(0, n), -1);
        }
    }

    private static void characterBeforeRoom() {
        FenceHandshakes x = Setups.withText(Setups.FULL_LIST);
        CHECKS.due("31", x.append(31), -2);
        CHECKS.due("127", x.append(127), -2);
        CHECKS.due("the least number", x.append(Integer.MIN_VALUE), -2);
        CHECKS.due("32", x.append(32), -3);
        CHECKS.due("126", x.append(126), -3);
    }

    private static void nobodyBeforeWhatOfAPerson() {
        int[] whats = {-1, 6};
        for (int what : whats) {
            for (int n : NOBODY) {
                CHECKS.due("left " + n + " and " + what, new FenceHandshakes().person(true, n, what), -1);
                CHECKS.due("right " + n + " and " + what, new FenceHandshakes().person(false, n, what), -1);
            }
            CHECKS.due("what alone, " + what, new FenceHandshakes().person(false, 7, what), -2);
        }
    }

    private static void nobodyBeforeWhatOfAPair() {
        int[] whats = {-1, 4};
        for (int what : whats) {
            for (int n : NOBODY) {
                CHECKS.due("left " + n + " and " + what, new FenceHandshakes().pair(n, 7, what), -1);
                CHECKS.due("right " + n + " and " + what, new FenceHandshakes().pair(0, n, what), -1);
            }
            CHECKS.due("what alone, " + what, new FenceHandshakes().pair(0, 7, what), -2);
        }
    }

    private static void nobodyBeforeNone() {
        for (int n : NOBODY) {
            CHECKS.due("partner of left " + n, new FenceHandshakes().partner(true, n), -1);
            CHECKS.due("partner of right " + n, new FenceHandshakes().partner(false, n), -1);
            CHECKS.due("planned of left " + n, new FenceHandshakes().planned(n, 7), -1);
            CHECKS.due("planned of right " + n, new FenceHandshakes().planned(0, n), -1);
        }
    }

    private static void noneIsNoError() {
        CHECKS.due("NONE", FenceHandshakes.NONE, -5);
        FenceHandshakes x = new FenceHandshakes();
        CHECKS.due("undo", x.undo(), -5);
        CHECKS.due("partner", x.partner(true, 0), -5);
        CHECKS.due("planned", x.planned(0, 0), -5);
        CHECKS.due("bestLink", x.bestLink(), -5);
        x.wish(0, 7);
        CHECKS.due("doneIn", x.doneIn(), -5);
        Setups.type(x, "0-0");
        CHECKS.due("fault", x.fault(), -5);
    }

    private static void dueNoChange(String what, ToIntFunction<FenceHandshakes> call) {
        for (Supplier<FenceHandshakes> setup : allSetups()) {
            Pictures.dueUnchanged(CHECKS, what, setup, call);
        }
        Pictures.dueUnchanged(CHECKS, what + " with all wishes", Setups::wishingAll, call);
    }

    private static void queriesChangeNothing() {
        for (int what = 0; what < 10; what++) {
            int asked = what;
            dueNoChange("count " + what, x -> x.count(asked));
            dueNoChange("person " + what, x -> x.person(true, 7, asked) + x.person(false, 0, asked));
            dueNoChange("pair " + what, x -> x.pair(0, 1, asked) + x.pair(7, 7, asked));
        }
        dueNoChange("isLinked", x -> x.isLinked(3, 3) + x.isLinked(0, 3));
        dueNoChange("partner", x -> x.partner(true, 7) + x.partner(false, 0));
        dueNoChange("hindered", FenceHandshakes::hindered);
        dueNoChange("planned", x -> x.planned(7, 7) + x.planned(0, 0));
        dueNoChange("fault", FenceHandshakes::fault);
    }

    private static void whatWouldBeChangesNothing() {
        dueNoChange("doneIn", FenceHandshakes::doneIn);
        dueNoChange("bestLink", FenceHandshakes::bestLink);
        dueNoChange("mean", x -> (int) x.mean());
        Pictures.dueUnchanged(CHECKS, "doneIn of 58 rounds", () -> {
            FenceHandshakes x = Setups.quarrelling(50);
            Setups.type(x, Setups.ALL_PAIRS);
            x.read();
            for (int link = 0; link < 16; link++) {
                x.link(link / 4, link % 4, true);
            }
            return x;
        }, FenceHandshakes::doneIn);
    }
}
