/** Terms, 'People and gates': a test for each sentence that names a boundary case. */
public final class PeopleAndGatesEdgesTest {
    private static final String PLACE = "People and gates";
    private static final Checks CHECKS = new Checks();

    public static void main(String[] args) {
        CHECKS.sentence(PLACE, "There are 8 people on the left side of the fence and 8 on the right side, "
            + "numbered from 0 to 7 on each side.", PeopleAndGatesEdgesTest::eightPeopleOnEachSide);
        CHECKS.sentence(PLACE, "There are 4 gates on each side, numbered from 0 to 3.",
            PeopleAndGatesEdgesTest::fourGatesOnEachSide);
        CHECKS.sentence(PLACE, "Each person stands at a gate of its side: at first the person p at the gate p / 2, "
            + "rounded down.", PeopleAndGatesEdgesTest::gatesAtFirst);
        CHECKS.sentence(PLACE, "at first those with the same number are linked, and no others",
            PeopleAndGatesEdgesTest::linksAtFirst);
        CHECKS.sentence(PLACE, "A left gate and a right gate are linked or not",
            PeopleAndGatesEdgesTest::eachLinkByItself);
        CHECKS.sentence(PLACE, "which lasts a number of rounds (1 to 50)", PeopleAndGatesEdgesTest::shortestFeud);
        CHECKS.sentence(PLACE, "which lasts a number of rounds (1 to 50)", PeopleAndGatesEdgesTest::longestFeud);
        CHECKS.sentence(PLACE, "or none (as at first)", PeopleAndGatesEdgesTest::noFeudsAtFirst);
        CHECKS.sentence(PLACE, "A left person and a right person can meet if their gates are linked",
            PeopleAndGatesEdgesTest::meetIfLinked);
        CHECKS.sentence(PLACE, "and there is no feud between them", PeopleAndGatesEdgesTest::meetWithoutFeud);
        CHECKS.end();
    }

    private static void eightPeopleOnEachSide() {
        CHECKS.range("left person", 0, 7, -1, v -> new FenceHandshakes().person(true, v, 1), v -> 0);
        CHECKS.range("right person", 0, 7, -1, v -> new FenceHandshakes().person(false, v, 1), v -> 0);
        FenceHandshakes x = Setups.wishingAll();
        CHECKS.due("everyone is seen from the left", x.person(true, 0, 5), 255);
        CHECKS.due("everyone is seen from the right", x.person(false, 7, 5), 255);
        CHECKS.due("everyone shakes hands", x.round(), 8);
    }

    private static void fourGatesOnEachSide() {
        CHECKS.range("left gate", 0, 3, -1, v -> new FenceHandshakes().isLinked(v, 3), v -> v == 3 ? 1 : 0);
        CHECKS.range("right gate", 0, 3, -1, v -> new FenceHandshakes().isLinked(0, v), v -> v == 0 ? 1 : 0);
        CHECKS.due("pairs of gates", Setups.allLinked().count(3), 16);
    }

    private static void gatesAtFirst() {
        FenceHandshakes x = new FenceHandshakes();
        int[] gates = {0, 0, 1, 1, 2, 2, 3, 3};
        for (int p = 0; p < 8; p++) {
            CHECKS.due("gate of left " + p, x.person(true, p, 0), gates[p]);
            CHECKS.due("gate of right " + p, x.person(false, p, 0), gates[p]);
        }
    }

    private static void linksAtFirst() {
        FenceHandshakes x = new FenceHandshakes();
        for (int l = 0; l < 4; l++) {
            for (int r = 0; r < 4; r++) {
                CHECKS.due("link of " + l + " and " + r, x.isLinked(l, r), l == r ? 1 : 0);
            }
        }
        CHECKS.due("linked pairs", x.count(3), 4);
    }

    private static void eachLinkByItself() {
        for (int link = 0; link < 16; link++) {
            FenceHandshakes x = new FenceHandshakes();
            boolean isLinked = link / 4 != link % 4;
            x.link(link / 4, link % 4, isLinked);
            for (int other = 0; other < 16; other++) {
                int atFirst = other / 4 == other % 4 ? 1 : 0;
                int want = other == link ? 1 - atFirst : atFirst;
                CHECKS.due("after link " + link + " link " + other, x.isLinked(other / 4, other % 4), want);
            }
        }
    }

    private static void shortestFeud() {
        FenceHandshakes x = new FenceHandshakes();
        CHECKS.due("none for 0 rounds", x.quarrel(7, 7, 0), -2);
        CHECKS.due("begin for 1 round", x.quarrel(7, 7, 1), 0);
        CHECKS.due("it lasts", x.pair(7, 7, 1), 1);
        CHECKS.due("they cannot meet", x.person(true, 7, 5), 64);
        x.round();
        CHECKS.due("it is over", x.pair(7, 7, 1), 0);
        CHECKS.due("they can meet", x.person(true, 7, 5), 192);
    }

    private static void longestFeud() {
        FenceHandshakes x = new FenceHandshakes();
        CHECKS.due("none for 51 rounds", x.quarrel(0, 0, 51), -2);
        CHECKS.due("begin for 50 rounds", x.quarrel(0, 0, 50), 0);
        for (int rounds = 0; rounds < 50; rounds++) {
            CHECKS.due("left after " + rounds, x.pair(0, 0, 1), 50 - rounds);
            CHECKS.due("they cannot meet after " + rounds, x.person(false, 0, 5), 2);
            x.round();
        }
        CHECKS.due("it is over", x.pair(0, 0, 1), 0);
        CHECKS.due("they can meet", x.person(false, 0, 5), 3);
    }

    private static void noFeudsAtFirst() {
        FenceHandshakes x = new FenceHandshakes();
        for (int pair = 0; pair < 64; pair++) {
            CHECKS.due("feud of the pair " + pair, x.pair(pair / 8, pair % 8, 1), 0);
            CHECKS.due("reconcile the pair " + pair, x.reconcile(pair / 8, pair % 8), -4);
        }
        CHECKS.due("feuds", x.count(2), 0);
    }

    private static void meetIfLinked() {
        FenceHandshakes x = new FenceHandshakes();
        CHECKS.due("right 0 and 1", x.person(true, 0, 5), 3);
        x.link(0, 0, false);
        CHECKS.due("nobody", x.person(true, 0, 5), 0);
        x.link(0, 3, true);
        CHECKS.due("right 6 and 7", x.person(true, 0, 5), 192);
        x.move(false, 6, 2);
        CHECKS.due("right 7 alone", x.person(true, 0, 5), 128);
        x.move(true, 0, 2);
        CHECKS.due("right 4, 5 and 6", x.person(true, 0, 5), 112);
        CHECKS.due("who meets right 6", x.person(false, 6, 5), 49);
    }

    private static void meetWithoutFeud() {
        FenceHandshakes x = new FenceHandshakes();
        x.quarrel(7, 6, 1);
        CHECKS.due("left 7", x.person(true, 7, 5), 128);
        CHECKS.due("right 6", x.person(false, 6, 5), 64);
        x.quarrel(7, 0, 1);
        CHECKS.due("not over unlinked gates, feud or not", x.person(true, 7, 5), 128);
        x.reconcile(7, 0);
        CHECKS.due("nor when it ends", x.person(true, 7, 5), 128);
        x.reconcile(7, 6);
        CHECKS.due("both again", x.person(true, 7, 5), 192);
        FenceHandshakes y = Setups.quarrelling(1);
        for (int p = 0; p < 8; p++) {
            CHECKS.due("left " + p + " in feuds with all", y.person(true, p, 5), 0);
            CHECKS.due("right " + p + " in feuds with all", y.person(false, p, 5), 0);
        }
    }
}
