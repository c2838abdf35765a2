import java.util.function.Supplier;

/** Promises 16 to 20 and 22: a test for each sentence that names a boundary case. Promise 21 has PlanEdgesTest. */
public final class QueriesEdgesTest {
    private static final Checks CHECKS = new Checks();

    public static void main(String[] args) {
        person("Promise 16");
        pair("Promise 17");
        isLinked("Promise 18");
        partner("Promise 19");
        hindered("Promise 20");
        count("Promise 22");
        CHECKS.end();
    }

    private static void person(String place) {
        CHECKS.sentence(place, "person: 0 to 7", () -> {
            CHECKS.range("gate of left", 0, 7, -1, v -> new FenceHandshakes().person(true, v, 0), v -> v / 2);
            CHECKS.range("people to meet of right", 0, 7, -1, v -> new FenceHandshakes().person(false, v, 5),
                v -> 3 << v / 2 * 2);
        });
        CHECKS.sentence(place, "what: 0 for its gate, 1 for", () -> {
            int[] left7 = {3, 2, 1, 2, 0, 64};
            int[] right7 = {3, 3, 1, 1, 0, 64};
            CHECKS.range("left 7 tells", 0, 5, -2, v -> talkative().person(true, 7, v), v -> left7[v]);
            CHECKS.range("right 7 tells", 0, 5, -2, v -> talkative().person(false, 7, v), v -> right7[v]);
        });
        CHECKS.sentence(place, "isLeft: whether a left person is meant; otherwise a right one",
            QueriesEdgesTest::oneSideOrTheOther);
        CHECKS.sentence(place, "0 for its gate", QueriesEdgesTest::gatesFrom0To3);
        CHECKS.sentence(place, "1 for the number of its open wishes", () -> from0To8(1, Setups::wishingAll));
        CHECKS.sentence(place, "2 of its possible open wishes", () -> from0To8(2, Setups::wishingAll));
        CHECKS.sentence(place, "2 of its possible open wishes", QueriesEdgesTest::openOnesAndPossibleOnes);
        CHECKS.sentence(place, "3 of its feuds", () -> from0To8(3, () -> Setups.quarrelling(50)));
        CHECKS.sentence(place, "3 of its feuds", QueriesEdgesTest::feudsAndNotTheirRounds);
        CHECKS.sentence(place, "4 of its handshakes so far", QueriesEdgesTest::handshakesOfAPerson);
        CHECKS.sentence(place, "5 for the people of the other side whom it can meet (as a bit mask in which bit p "
            + "stands for the person p)", QueriesEdgesTest::peopleToMeet);
        CHECKS.sentence(place, "NO_SUCH if there is no such person; BAD_VALUE if what is out of range", () -> {
            FenceHandshakes x = new FenceHandshakes();
            CHECKS.due("no person, with a good what", x.person(true, 8, 0), -1);
            CHECKS.due("a person, with a wrong what", x.person(true, 7, 6), -2);
            CHECKS.due("no person first", x.person(true, 8, 6), -1);
            CHECKS.due("no right person first", x.person(false, -1, -1), -1);
        });
    }

    /** The left 7 and the right 7 have a possible wish each, an impossible one or two, and feuds. */
    private static FenceHandshakes talkative() {
        FenceHandshakes x = new FenceHandshakes();
        Setups.addWishes(x, 76, 70, 67, 17, 27);
        x.quarrel(7, 7, 1);
        x.quarrel(7, 2, 50);
        return x;
    }

    private static void oneSideOrTheOther() {
        FenceHandshakes x = new FenceHandshakes();
        x.move(true, 7, 0);
        x.wish(7, 0);
        x.wish(7, 1);
        x.quarrel(7, 5, 9);
        int[] left = {0, 2, 2, 1, 0, 3};
        int[] right = {3, 0, 0, 0, 0, 64};
        for (int what = 0; what < 6; what++) {
            CHECKS.due("left 7 tells " + what, x.person(true, 7, what), left[what]);
            CHECKS.due("right 7 tells " + what, x.person(false, 7, what), right[what]);
        }
        x.round();
        CHECKS.due("a handshake of left 7", x.person(true, 7, 4), 1);
        CHECKS.due("none of right 7", x.person(false, 7, 4), 0);
        CHECKS.due("none of left 0", x.person(true, 0, 4), 0);
        CHECKS.due("one of right 0", x.person(false, 0, 4), 1);
    }

    private static void gatesFrom0To3() {
        FenceHandshakes x = new FenceHandshakes();
        for (int gate = 3; gate >= 0; gate--) {
            x.move(true, 0, gate);
            x.move(false, 7, gate);
            CHECKS.due("gate of left 0", x.person(true, 0, 0), gate);
            CHECKS.due("gate of right 7", x.person(false, 7, 0), gate);
        }
    }

    private static void from0To8(int what, Supplier<FenceHandshakes> all) {
        for (int p = 0; p < 8; p++) {
            FenceHandshakes none = new FenceHandshakes();
            CHECKS.due("none of left " + p, none.person(true, p, what), 0);
            CHECKS.due("none of right " + p, none.person(false, p, what), 0);
            CHECKS.due("all of left " + p, all.get().person(true, p, what), 8);
            CHECKS.due("all of right " + p, all.get().person(false, p, what), 8);
        }
    }

    private static void openOnesAndPossibleOnes() {
        FenceHandshakes x = new FenceHandshakes();
        Setups.addWishes(x, 00, 01, 02, 07);
        x.quarrel(0, 1, 1);
        CHECKS.due("open ones of left 0", x.person(true, 0, 1), 4);
        CHECKS.due("possible ones of left 0", x.person(true, 0, 2), 1);
        CHECKS.due("open ones of right 1", x.person(false, 1, 1), 1);
        CHECKS.due("possible ones of right 1", x.person(false, 1, 2), 0);
        CHECKS.due("a handshake", x.round(), 1);
        CHECKS.due("open ones then", x.person(true, 0, 1), 3);
        CHECKS.due("possible ones when the feud is over", x.person(true, 0, 2), 1);
    }

    private static void feudsAndNotTheirRounds() {
        FenceHandshakes x = new FenceHandshakes();
        x.quarrel(7, 0, 50);
        x.quarrel(7, 7, 1);
        CHECKS.due("two of left 7", x.person(true, 7, 3), 2);
        CHECKS.due("one of right 0", x.person(false, 0, 3), 1);
        x.round();
        CHECKS.due("one of left 7", x.person(true, 7, 3), 1);
        CHECKS.due("none of right 7", x.person(false, 7, 3), 0);
    }

    private static void handshakesOfAPerson() {
        FenceHandshakes x = Setups.wishingAll();
        for (int round = 0; round <= 8; round++) {
            for (int p = 0; p < 8; p++) {
                CHECKS.due("left " + p + " after " + round, x.person(true, p, 4), round);
                CHECKS.due("right " + p + " after " + round, x.person(false, p, 4), round);
            }
            x.round();
        }
        FenceHandshakes again = new FenceHandshakes();
        for (int n = 1; n <= 100; n++) {
            again.wish(7, 7);
            again.round();
            CHECKS.due("with the same one", again.person(true, 7, 4), n);
        }
        again.withdraw(7, 7);
        again.quarrel(7, 7, 50);
        CHECKS.due("a feud does not undo them", again.person(false, 7, 4), 100);
    }

    private static void peopleToMeet() {
        for (int p = 0; p < 8; p++) {
            FenceHandshakes x = Setups.allLinked();
            CHECKS.due("everyone, from left 3", x.person(true, 3, 5), 255);
            CHECKS.due("everyone, from right 3", x.person(false, 3, 5), 255);
            x.quarrel(3, p, 50);
            CHECKS.due("all but right " + p, x.person(true, 3, 5), 255 - (1 << p));
            x.quarrel(p, 3, 50);
            CHECKS.due("all but left " + p, x.person(false, 3, 5), 255 - (1 << p));
        }
        FenceHandshakes nobody = new FenceHandshakes();
        nobody.link(0, 0, false);
        CHECKS.due("nobody, from left 1", nobody.person(true, 1, 5), 0);
        CHECKS.due("nobody, from right 0", nobody.person(false, 0, 5), 0);
        FenceHandshakes one = new FenceHandshakes();
        one.move(false, 6, 0);
        CHECKS.due("right 7 alone", one.person(true, 6, 5), 128);
        one.move(true, 1, 1);
        CHECKS.due("left 0 alone", one.person(false, 0, 5), 1);
    }

    private static void pair(String place) {
        CHECKS.sentence(place, "left: 0 to 7", () ->
            CHECKS.range("feud of left", 0, 7, -1, v -> Setups.quarrelling(50).pair(v, 3, 1), v -> 50));
        CHECKS.sentence(place, "right: 0 to 7", () ->
            CHECKS.range("wish of right", 0, 7, -1, v -> Setups.wishingAll().pair(3, v, 0), v -> 1));
        CHECKS.sentence(place, "what: 0 for whether they have an open wish (1 or 0), 1 for", () -> {
            int[] told = {1, 50, 1, 3};
            CHECKS.range("the pair 7 7 tells", 0, 3, -2, v -> quarrelledAfterwards().pair(7, 7, v), v -> told[v]);
        });
        CHECKS.sentence(place, "0 for whether they have an open wish (1 or 0)", QueriesEdgesTest::wishOrNone);
        CHECKS.sentence(place, "1 for the rounds that their feud lasts yet (0 without one)",
            QueriesEdgesTest::feudFrom0To50);
        CHECKS.sentence(place, "2 for their handshakes so far", QueriesEdgesTest::handshakesOfAPair);
        CHECKS.sentence(place, "the first one that applies of 1 (there is no open wish)",
            QueriesEdgesTest::noWishComesFirst);
        CHECKS.sentence(place, "2 (their gates are not linked)", QueriesEdgesTest::gatesComeSecond);
        CHECKS.sentence(place, "3 (there is a feud between them)", QueriesEdgesTest::feudComesThird);
        CHECKS.sentence(place, "4 (the round takes another matching), and 0 if they do",
            QueriesEdgesTest::matchingComesLast);
        CHECKS.sentence(place, "NO_SUCH if there is no such person; BAD_VALUE if what is out of range", () -> {
            FenceHandshakes x = new FenceHandshakes();
            CHECKS.due("no left person, with a good what", x.pair(8, 0, 0), -1);
            CHECKS.due("no right person, with a good what", x.pair(0, -1, 3), -1);
            CHECKS.due("people, with a wrong what", x.pair(0, 7, 4), -2);
            CHECKS.due("no left person first", x.pair(-1, 0, 4), -1);
            CHECKS.due("no right person first", x.pair(0, 8, -1), -1);
        });
    }

    /** The two of 7 and 7 have shaken hands; they wish to do so again, and are in a feud. */
    private static FenceHandshakes quarrelledAfterwards() {
        FenceHandshakes x = new FenceHandshakes();
        x.wish(7, 7);
        x.round();
        x.wish(7, 7);
        x.quarrel(7, 7, 50);
        return x;
    }

    private static void wishOrNone() {
        for (int p = 0; p < 64; p++) {
            FenceHandshakes x = new FenceHandshakes();
            x.wish(p / 8, p % 8);
            for (int q = 0; q < 64; q++) {
                CHECKS.due("pair " + q + " with the wish " + p, x.pair(q / 8, q % 8, 0), p == q ? 1 : 0);
            }
        }
    }

    private static void feudFrom0To50() {
        FenceHandshakes x = new FenceHandshakes();
        CHECKS.due("without one", x.pair(7, 0, 1), 0);
        for (int rounds = 1; rounds <= 50; rounds++) {
            x.quarrel(7, 0, rounds);
            CHECKS.due("of " + rounds, x.pair(7, 0, 1), rounds);
            CHECKS.due("turned about", x.pair(0, 7, 1), 0);
        }
        x.reconcile(7, 0);
        CHECKS.due("without one again", x.pair(7, 0, 1), 0);
    }

    private static void handshakesOfAPair() {
        FenceHandshakes x = new FenceHandshakes();
        for (int n = 0; n < 130; n++) {
            CHECKS.due("before " + n, x.pair(7, 6, 2), n);
            x.wish(7, 6);
            x.round();
        }
        CHECKS.due("turned about", x.pair(6, 7, 2), 0);
        CHECKS.due("beside it", x.pair(7, 7, 2), 0);
        x.undo();
        CHECKS.due("after undo", x.pair(7, 6, 2), 129);
    }

    private static void noWishComesFirst() {
        FenceHandshakes x = new FenceHandshakes();
        x.quarrel(0, 7, 1);
        x.quarrel(7, 7, 1);
        CHECKS.due("not linked, a feud, no wish", x.pair(0, 7, 3), 1);
        CHECKS.due("a feud, no wish", x.pair(7, 7, 3), 1);
        CHECKS.due("not linked, no wish", x.pair(7, 0, 3), 1);
        CHECKS.due("no wish alone", x.pair(0, 0, 3), 1);
        x.wish(0, 0);
        x.round();
        CHECKS.due("no wish after the handshake", x.pair(0, 0, 3), 1);
    }

    private static void gatesComeSecond() {
        FenceHandshakes x = new FenceHandshakes();
        Setups.addWishes(x, 07, 70);
        x.quarrel(0, 7, 50);
        CHECKS.due("not linked, a feud", x.pair(0, 7, 3), 2);
        CHECKS.due("not linked alone", x.pair(7, 0, 3), 2);
        x.link(0, 3, true);
        CHECKS.due("the feud then", x.pair(0, 7, 3), 3);
        CHECKS.due("linked the other way about", x.pair(7, 0, 3), 2);
    }

    private static void feudComesThird() {
        FenceHandshakes x = new FenceHandshakes();
        Setups.addWishes(x, 00, 10);
        x.quarrel(1, 0, 1);
        CHECKS.due("a feud ahead of another matching", x.pair(1, 0, 3), 3);
        x.reconcile(1, 0);
        CHECKS.due("another matching then", x.pair(1, 0, 3), 4);
        x.quarrel(0, 0, 1);
        CHECKS.due("a feud of one round", x.pair(0, 0, 3), 3);
        CHECKS.due("which lets the other do", x.pair(1, 0, 3), 0);
        x.round();
        CHECKS.due("when it is over", x.pair(0, 0, 3), 0);
    }

    private static void matchingComesLast() {
        FenceHandshakes x = Setups.wishing(00, 01, 10, 07, 77, 67);
        int[] does = {01, 10, 67};
        int[] doesNot = {00, 07, 77};
        for (int p : does) {
            CHECKS.due(p + " does", x.pair(p / 10, p % 10, 3), 0);
        }
        for (int p : doesNot) {
            CHECKS.due(p + " does not", x.pair(p / 10, p % 10, 3), 4);
        }
        CHECKS.due("as the round shows", x.round(), 3);
        for (int p : does) {
            CHECKS.due(p + " did", x.pair(p / 10, p % 10, 2), 1);
        }
        for (int p : doesNot) {
            CHECKS.due(p + " did not", x.pair(p / 10, p % 10, 2), 0);
        }
    }

    private static void isLinked(String place) {
        CHECKS.sentence(place, "left: 0 to 3, a left gate", () ->
            CHECKS.range("left", 0, 3, -1, v -> new FenceHandshakes().isLinked(v, 0), v -> v == 0 ? 1 : 0));
        CHECKS.sentence(place, "right: 0 to 3, a right gate", () ->
            CHECKS.range("right", 0, 3, -1, v -> new FenceHandshakes().isLinked(3, v), v -> v == 3 ? 1 : 0));
        CHECKS.sentence(place, "NO_SUCH if there is no such gate", () -> {
            FenceHandshakes x = Setups.allLinked();
            int[][] wrong = {{0, 4}, {3, -1}, {1, -4}, {-1, 4}, {-1, 0}, {4, 0}, {4, -1}, {4, 4}, {-1, -1}};
            for (int[] w : wrong) {
                CHECKS.due("isLinked " + w[0] + " " + w[1], x.isLinked(w[0], w[1]), -1);
            }
        });
        CHECKS.sentence(place, "Returns 1 if they are, otherwise 0", () -> {
            FenceHandshakes x = new FenceHandshakes();
            x.link(3, 0, true);
            x.link(0, 0, false);
            CHECKS.due("3 and 0", x.isLinked(3, 0), 1);
            CHECKS.due("0 and 3", x.isLinked(0, 3), 0);
            CHECKS.due("0 and 0", x.isLinked(0, 0), 0);
            CHECKS.due("3 and 3", x.isLinked(3, 3), 1);
        });
    }

    private static void partner(String place) {
        CHECKS.sentence(place, "person: 0 to 7", () -> {
            CHECKS.range("partner of left", 0, 7, -1, v -> Setups.wishingAll().partner(true, v), v -> v);
            CHECKS.range("partner of right", 0, 7, -1, v -> Setups.wishingAll().partner(false, v), v -> v);
        });
        CHECKS.sentence(place, "isLeft: whether a left person is meant; otherwise a right one", () -> {
            FenceHandshakes x = Setups.wishing(70);
            CHECKS.due("left 7", x.partner(true, 7), 0);
            CHECKS.due("right 0", x.partner(false, 0), 7);
            CHECKS.due("right 7", x.partner(false, 7), -5);
            CHECKS.due("left 0", x.partner(true, 0), -5);
        });
        CHECKS.sentence(place, "in the matching that the next round would take", QueriesEdgesTest::asInTheNextRound);
        CHECKS.sentence(place, "NONE if it has no partner", QueriesEdgesTest::withoutPartner);
        CHECKS.sentence(place, "NO_SUCH if there is no such person; NONE if it has no partner", () -> {
            FenceHandshakes x = new FenceHandshakes();
            CHECKS.due("no left person", x.partner(true, 8), -1);
            CHECKS.due("no right person", x.partner(false, -1), -1);
        });
    }

    private static void asInTheNextRound() {
        FenceHandshakes x = Setups.wishing(07, 06, 16, 17, 20, 70, 71);
        int[] ofLeft = {6, 7, 0, -5, -5, -5, -5, 1};
        int[] ofRight = {2, 7, -5, -5, -5, -5, 0, 1};
        for (int p = 0; p < 8; p++) {
            CHECKS.due("left " + p, x.partner(true, p), ofLeft[p]);
            CHECKS.due("right " + p, x.partner(false, p), ofRight[p]);
        }
        x.round();
        for (int p = 0; p < 8; p++) {
            CHECKS.due("left " + p + " in the round", x.person(true, p, 4), ofLeft[p] < 0 ? 0 : 1);
            if (ofLeft[p] >= 0) {
                CHECKS.due("with " + ofLeft[p], x.pair(p, ofLeft[p], 2), 1);
            }
        }
        CHECKS.due("the next one of 0", x.partner(true, 0), 7);
    }

    private static void withoutPartner() {
        FenceHandshakes x = Setups.wishing(00, 10, 34);
        x.quarrel(3, 4, 1);
        CHECKS.due("a wish that another one takes", x.partner(true, 1), -5);
        CHECKS.due("a wish in a feud", x.partner(true, 3), -5);
        CHECKS.due("the right person of it", x.partner(false, 4), -5);
        CHECKS.due("no wish", x.partner(true, 7), -5);
        x.round();
        CHECKS.due("when the one ahead is done", x.partner(true, 1), 0);
        CHECKS.due("when the feud is over", x.partner(true, 3), 4);
        CHECKS.due("who has done", x.partner(true, 0), -5);
    }

    private static void hindered(String place) {
        CHECKS.sentence(place, "Returns the people, as a bit mask in which bit p stands for the person p.",
            QueriesEdgesTest::hinderedFromNoneToAll);
        CHECKS.sentence(place, "those left people with possible open wishes", QueriesEdgesTest::onlyThoseWithWishes);
        CHECKS.sentence(place, "who have no partner in some greatest matching", QueriesEdgesTest::inSomeMatching);
        CHECKS.sentence(place, "who have no partner in some greatest matching", QueriesEdgesTest::inSomeOfAll);
        CHECKS.sentence(place, "Returns the left people who hinder one another", () -> {
            CHECKS.due("a left person with two right ones", Setups.wishing(70, 77).hindered(), 0);
            CHECKS.due("two left ones with a right one", Setups.wishing(00, 70).hindered(), 129);
        });
    }

    private static void hinderedFromNoneToAll() {
        CHECKS.due("without wishes", new FenceHandshakes().hindered(), 0);
        CHECKS.due("with all wishes", Setups.wishingAll().hindered(), 0);
        FenceHandshakes x = Setups.allLinked();
        for (int p = 7; p >= 0; p--) {
            x.wish(p, 7);
            CHECKS.due("from " + p + " on for the right 7", x.hindered(), p == 7 ? 0 : 256 - (1 << p));
        }
        FenceHandshakes one = Setups.wishing(67, 77);
        CHECKS.due("the last two", one.hindered(), 192);
        // Eight people for seven: whoever is left out, each of the others can go one further.
        FenceHandshakes chain = Setups.wishing(00, 10, 11, 21, 22, 32, 33, 43, 44, 54, 55, 65, 66, 76);
        CHECKS.due("all along a chain", chain.hindered(), 255);
        FenceHandshakes back = Setups.wishing(77, 67, 66, 56, 55, 45, 44, 34, 33, 23, 22, 12, 11, 01);
        CHECKS.due("all along a chain back", back.hindered(), 255);
    }

    private static void onlyThoseWithWishes() {
        FenceHandshakes x = new FenceHandshakes();
        Setups.addWishes(x, 00, 10, 27, 33);
        x.quarrel(3, 3, 1);
        CHECKS.due("neither those over unlinked gates nor those in a feud", x.hindered(), 3);
        x.wish(2, 3);
        CHECKS.due("nor one with a possible wish and an impossible one", x.hindered(), 3);
        x.reconcile(3, 3);
        CHECKS.due("but those whose wish has become possible", x.hindered(), 15);
        x.quarrel(1, 0, 1);
        CHECKS.due("and no longer who can meet nobody", x.hindered(), 12);
    }

    private static void inSomeMatching() {
        // 0 has 0 in the first greatest matching, but none in the one in which 1 has 0.
        CHECKS.due("a partner in the first matching", Setups.wishing(00, 10).hindered(), 3);
        // 1 has a partner in each greatest matching, as it has 4 for itself; 0 and 2 yield 3 to one another.
        CHECKS.due("a partner in each", Setups.wishing(03, 13, 14, 23).hindered(), 5);
        // 4 and 5 have the right people 4 and 5 for themselves.
        CHECKS.due("those apart", Setups.wishing(03, 13, 44, 45, 54, 55).hindered(), 3);
        // 2 would only yield 1 to somebody, but 0 and 1 wish for 0 alone.
        CHECKS.due("those who yield nothing that is sought", Setups.wishing(00, 10, 20, 21).hindered(), 3);
        CHECKS.due("nobody, as there is one for each", Setups.wishing(00, 01, 10, 12, 20).hindered(), 0);
    }

    private static void inSomeOfAll() {
        int[] three = {0, 5, 7};
        for (int set = 0; set < 512; set++) {
            int[] pairs = Matchings.setOf(set, three, three);
            CHECKS.due("set " + set, Setups.wishing(pairs).hindered(), new Matchings(pairs).leftOutInSome());
        }
        for (int set = 0; set < 1000; set++) {
            int[] pairs = Matchings.scatteredSet(set);
            CHECKS.due("scattered set " + set, Setups.wishing(pairs).hindered(), new Matchings(pairs).leftOutInSome());
        }
    }

    private static void count(String place) {
        CHECKS.sentence(place, "what: 0 for open wishes, 1 for", () -> {
            int[] told = {4, 2, 3, 6, 1, 2, 2, 1, 5, 10};
            CHECKS.range("count", 0, 9, -2, v -> Setups.eventful().count(v), v -> told[v]);
        });
        CHECKS.sentence(place, "BAD_VALUE if what is out of range", () -> {
            int[] wrong = {-1, 10, 11, 256, -256, Integer.MIN_VALUE, Integer.MAX_VALUE};
            for (int what : wrong) {
                CHECKS.due("count " + what, Setups.eventful().count(what), -2);
                CHECKS.due("count " + what + " of a new object", new FenceHandshakes().count(what), -2);
            }
        });
        CHECKS.sentence(place, "0 for open wishes", () -> dueCount(0, 0, 64, Setups::wishingAll));
        CHECKS.sentence(place, "1 for possible open wishes", () -> dueCount(1, 0, 64, Setups::wishingAll));
        CHECKS.sentence(place, "1 for possible open wishes", () -> {
            FenceHandshakes x = Setups.withText(Setups.ALL_PAIRS);
            x.read();
            CHECKS.due("over the gates that are linked at first", x.count(1), 16);
            x.quarrel(7, 7, 1);
            CHECKS.due("without a feud", x.count(1), 15);
            CHECKS.due("open all the same", x.count(0), 64);
        });
        CHECKS.sentence(place, "2 for feuds", () -> dueCount(2, 0, 64, () -> Setups.quarrelling(50)));
        CHECKS.sentence(place, "3 for linked pairs of gates", () -> dueCount(3, 4, 16, Setups::allLinked));
        CHECKS.sentence(place, "3 for linked pairs of gates", () -> {
            FenceHandshakes x = new FenceHandshakes();
            for (int gate = 0; gate < 4; gate++) {
                x.link(gate, gate, false);
                CHECKS.due("without " + gate, x.count(3), 3 - gate);
            }
        });
        CHECKS.sentence(place, "4 for rounds so far", () -> dueCount(4, 0, 300, () -> afterRounds(300)));
        CHECKS.sentence(place, "5 for handshakes so far", QueriesEdgesTest::handshakesOfAll);
        CHECKS.sentence(place, "6 for handshakes in the next round", () -> dueCount(6, 0, 8, Setups::wishingAll));
        CHECKS.sentence(place, "7 for the greatest number of possible open wishes of a person", () -> {
            dueCount(7, 0, 8, Setups::wishingAll);
            dueCount(7, 0, 8, () -> Setups.wishing(70, 71, 72, 73, 74, 75, 76, 77));
            dueCount(7, 0, 8, () -> Setups.wishing(07, 17, 27, 37, 47, 57, 67, 77));
            dueCount(7, 0, 8, () -> Setups.wishing(00, 01, 02, 03, 04, 05, 06, 07));
            dueCount(7, 0, 8, () -> Setups.wishing(00, 10, 20, 30, 40, 50, 60, 70));
            dueCount(7, 0, 1, () -> Setups.wishing(00, 11, 77));
        });
        CHECKS.sentence(place, "7 for the greatest number of possible open wishes of a person", () -> {
            FenceHandshakes x = Setups.quarrelling(50);
            for (int link = 0; link < 16; link++) {
                x.link(link / 4, link % 4, true);
            }
            CHECKS.due("feuds are no wishes", x.count(7), 0);
            x.wish(7, 7);
            CHECKS.due("nor do they leave any possible", x.count(7), 0);
            x.reconcile(7, 7);
            CHECKS.due("but for the one that is ended", x.count(7), 1);
        });
        CHECKS.sentence(place, "8 for states in the history", () -> {
            for (int rounds = 0; rounds <= 12; rounds++) {
                CHECKS.due("states after " + rounds, afterRounds(rounds).count(8), Math.min(rounds, 5));
            }
        });
        CHECKS.sentence(place, "9 for the length of the text", () -> {
            for (int length = 0; length <= 80; length++) {
                CHECKS.due("length", Setups.withText(" ".repeat(length)).count(9), length);
            }
        });
    }

    private static FenceHandshakes afterRounds(int rounds) {
        FenceHandshakes x = new FenceHandshakes();
        Setups.makeRounds(x, rounds);
        return x;
    }

    private static void dueCount(int what, int least, int greatest, Supplier<FenceHandshakes> greatestOne) {
        CHECKS.due("count " + what + " of a new object", new FenceHandshakes().count(what), least);
        CHECKS.due("count " + what, greatestOne.get().count(what), greatest);
    }

    private static void handshakesOfAll() {
        FenceHandshakes x = Setups.wishingAll();
        for (int rounds = 0; rounds <= 9; rounds++) {
            CHECKS.due("after " + rounds, x.count(5), Math.min(8 * rounds, 64));
            x.round();
        }
        x.read();
        x.round();
        CHECKS.due("the same pairs again", x.count(5), 72);
    }
}
