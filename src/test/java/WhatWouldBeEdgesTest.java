/** Promises 23 to 25: a test for each sentence that names a boundary case. */
public final class WhatWouldBeEdgesTest {
    private static final Checks CHECKS = new Checks();

    public static void main(String[] args) {
        doneIn("Promise 23");
        bestLink("Promise 24");
        mean("Promise 25");
        CHECKS.end();
    }

    private static void doneIn(String place) {
        CHECKS.sentence(place, "Returns the number of rounds, 0 to 200", WhatWouldBeEdgesTest::noRounds);
        CHECKS.sentence(place, "Returns the number of rounds", WhatWouldBeEdgesTest::from1To8Rounds);
        CHECKS.sentence(place, "Returns the number of rounds", WhatWouldBeEdgesTest::longestFeuds);
        CHECKS.sentence(place, "after how many rounds all open wishes are fulfilled",
            WhatWouldBeEdgesTest::roundsAndNotThePlan);
        CHECKS.sentence(place, "if nothing else is done", WhatWouldBeEdgesTest::asTheRoundsShow);
        CHECKS.sentence(place, "NONE if there are open wishes after 200 rounds", WhatWouldBeEdgesTest::neverDone);
        CHECKS.sentence(place, "Tells after how many rounds all open wishes are fulfilled",
            WhatWouldBeEdgesTest::allOfThem);
    }

    private static void noRounds() {
        CHECKS.due("a new object", new FenceHandshakes().doneIn(), 0);
        CHECKS.due("feuds without wishes", Setups.quarrelling(50).doneIn(), 0);
        FenceHandshakes x = new FenceHandshakes();
        x.wish(0, 0);
        x.round();
        CHECKS.due("when all is done", x.doneIn(), 0);
        x.wish(0, 7);
        x.withdraw(0, 7);
        CHECKS.due("when the rest is withdrawn", x.doneIn(), 0);
    }

    private static void from1To8Rounds() {
        FenceHandshakes left = Setups.allLinked();
        FenceHandshakes right = Setups.allLinked();
        for (int n = 1; n <= 8; n++) {
            left.wish(7, n - 1);
            CHECKS.due(n + " of a left person", left.doneIn(), n);
            right.wish(n - 1, 7);
            CHECKS.due(n + " of a right person", right.doneIn(), n);
        }
        CHECKS.due("all 64", Setups.wishingAll().doneIn(), 8);
    }

    private static void longestFeuds() {
        FenceHandshakes x = new FenceHandshakes();
        x.wish(7, 7);
        for (int rounds = 1; rounds <= 50; rounds++) {
            x.quarrel(7, 7, rounds);
            CHECKS.due("after a feud of " + rounds, x.doneIn(), rounds + 1);
        }
        FenceHandshakes all = Setups.allLinked();
        for (int pair = 0; pair < 64; pair++) {
            all.wish(pair / 8, pair % 8);
            all.quarrel(pair / 8, pair % 8, 50);
        }
        CHECKS.due("all 64 after their feuds", all.doneIn(), 58);
    }

    private static void roundsAndNotThePlan() {
        // Two rounds pass before the right person 7 has a turn, as 0 and 1 are lesser; d is 3.
        FenceHandshakes x = Setups.wishing(00, 01, 07, 10, 11, 17);
        CHECKS.due("the greatest number of wishes", x.count(7), 3);
        CHECKS.due("one round more", x.doneIn(), 4);
    }

    private static void asTheRoundsShow() {
        FenceHandshakes x = Setups.wishing(00, 01, 07, 10, 11, 17, 27, 20, 33, 34, 43);
        x.quarrel(0, 0, 3);
        x.quarrel(3, 3, 12);
        x.quarrel(4, 3, 1);
        int rounds = x.doneIn();
        CHECKS.due("the longest feud and a round", rounds, 13);
        for (int n = 1; n <= 13; n++) {
            CHECKS.dueTrue("open before round " + n, x.count(0) > 0);
            x.round();
            CHECKS.due("left after round " + n, x.doneIn(), 13 - n);
        }
        CHECKS.due("open then", x.count(0), 0);
    }

    private static void neverDone() {
        for (int pair = 0; pair < 64; pair++) {
            FenceHandshakes x = new FenceHandshakes();
            x.wish(pair / 8, pair % 8);
            CHECKS.due("the pair " + pair + " alone", x.doneIn(), pair / 16 == pair % 8 / 2 ? 1 : -5);
        }
        FenceHandshakes x = new FenceHandshakes();
        Setups.addWishes(x, 00, 77, 07);
        CHECKS.due("one of three never", x.doneIn(), -5);
        x.quarrel(0, 7, 50);
        CHECKS.due("in a feud besides", x.doneIn(), -5);
        x.move(true, 0, 3);
        CHECKS.due("another one never", x.doneIn(), -5);
        x.withdraw(0, 0);
        CHECKS.due("both after the feud", x.doneIn(), 51);
        // The rounds so far have no part in the 200.
        FenceHandshakes late = new FenceHandshakes();
        late.wish(0, 0);
        late.quarrel(0, 0, 50);
        Setups.makeRounds(late, 49);
        CHECKS.due("one round of the feud is left", late.doneIn(), 2);
        Setups.makeRounds(late, 200);
        late.wish(7, 7);
        CHECKS.due("after more than 200 rounds", late.doneIn(), 1);
        late.wish(7, 0);
        CHECKS.due("never after more than 200 rounds", late.doneIn(), -5);
    }

    private static void allOfThem() {
        FenceHandshakes x = Setups.wishing(00, 11, 22, 33, 44, 55, 66, 77);
        CHECKS.due("eight at once", x.doneIn(), 1);
        x.quarrel(7, 7, 1);
        CHECKS.due("the last one later", x.doneIn(), 2);
        x.quarrel(0, 0, 2);
        CHECKS.due("the first one still later", x.doneIn(), 3);
        x.withdraw(0, 0);
        x.withdraw(7, 7);
        CHECKS.due("without both", x.doneIn(), 1);
    }

    private static void bestLink(String place) {
        CHECKS.sentence(place, "Returns 4 times the left gate plus the right gate", WhatWouldBeEdgesTest::from0To15);
        CHECKS.sentence(place, "of several the lowest number", WhatWouldBeEdgesTest::lowestOfSeveral);
        CHECKS.sentence(place, "would let the most handshakes take place", WhatWouldBeEdgesTest::mostOfSeveral);
        CHECKS.sentence(place, "NONE if all pairs of gates are linked", WhatWouldBeEdgesTest::allAreLinked);
        CHECKS.sentence(place, "or no linking would let more take place than without it",
            WhatWouldBeEdgesTest::noneIsBetter);
        CHECKS.sentence(place, "in the next round", () -> {
            FenceHandshakes x = new FenceHandshakes();
            x.wish(0, 7);
            x.quarrel(0, 7, 1);
            CHECKS.due("not while the feud lasts", x.bestLink(), -5);
            x.round();
            CHECKS.due("but then", x.bestLink(), 3);
        });
    }

    private static void from0To15() {
        for (int link = 0; link < 16; link++) {
            FenceHandshakes x = Setups.allLinked();
            x.link(link / 4, link % 4, false);
            x.wish(link / 4 * 2 + 1, link % 4 * 2);
            CHECKS.due("the only one that is not linked, " + link, x.bestLink(), link);
            FenceHandshakes y = new FenceHandshakes();
            y.link(link / 4, link % 4, false);
            y.wish(link / 4 * 2, link % 4 * 2 + 1);
            CHECKS.due("one of many that are not linked, " + link, y.bestLink(), link);
        }
    }

    private static void lowestOfSeveral() {
        FenceHandshakes x = new FenceHandshakes();
        int[] pairs = {75, 72, 60, 41, 37, 24, 20, 06};
        int[] best = {14, 13, 12, 8, 7, 6, 4, 3};
        for (int n = 0; n < pairs.length; n++) {
            Setups.addWishes(x, pairs[n]);
            // None of the wishes is possible, and each of these links lets one handshake take place.
            CHECKS.due("with " + pairs[n], x.bestLink(), best[n]);
        }
    }

    private static void mostOfSeveral() {
        FenceHandshakes x = new FenceHandshakes();
        Setups.addWishes(x, 02);
        CHECKS.due("one alone", x.bestLink(), 1);
        Setups.addWishes(x, 74, 65);
        CHECKS.due("two rather than one", x.bestLink(), 14);
        Setups.addWishes(x, 13);
        CHECKS.due("as many with the lowest number", x.bestLink(), 1);
        x.quarrel(1, 3, 50);
        CHECKS.due("a feud leaves one of them", x.bestLink(), 14);
        FenceHandshakes y = new FenceHandshakes();
        Setups.addWishes(y, 02, 03, 46, 57);
        CHECKS.due("handshakes count, not wishes", y.bestLink(), 11);
        y.wish(4, 4);
        CHECKS.due("beside one that takes place anyhow", y.bestLink(), 1);
    }

    private static void allAreLinked() {
        FenceHandshakes x = Setups.wishingAll();
        CHECKS.due("with all wishes", x.bestLink(), -5);
        CHECKS.due("without wishes", Setups.allLinked().bestLink(), -5);
        x.link(3, 3, false);
        CHECKS.due("all but one, which is not needed", x.bestLink(), -5);
        FenceHandshakes y = Setups.wishing(77, 00);
        y.link(3, 3, false);
        CHECKS.due("all but one, which is needed", y.bestLink(), 15);
        y.link(3, 3, true);
        CHECKS.due("all again", y.bestLink(), -5);
    }

    private static void noneIsBetter() {
        CHECKS.due("a new object", new FenceHandshakes().bestLink(), -5);
        FenceHandshakes x = new FenceHandshakes();
        Setups.addWishes(x, 00, 07);
        CHECKS.due("0 shakes hands anyhow", x.bestLink(), -5);
        Setups.addWishes(x, 17);
        CHECKS.due("1 does not", x.bestLink(), 3);
        x.quarrel(1, 7, 50);
        CHECKS.due("nor would it in a feud", x.bestLink(), -5);
        FenceHandshakes y = new FenceHandshakes();
        Setups.addWishes(y, 77, 67, 17);
        CHECKS.due("the right person 7 shakes hands anyhow", y.bestLink(), -5);
    }

    private static void mean(String place) {
        CHECKS.sentence(place, "0.0 before the first round", WhatWouldBeEdgesTest::beforeTheFirstRound);
        CHECKS.sentence(place, "Returns the handshakes so far, as a double, divided by the rounds so far",
            WhatWouldBeEdgesTest::from0To8HandshakesARound);
        CHECKS.sentence(place, "as a double", WhatWouldBeEdgesTest::noWholeNumbers);
    }

    private static void beforeTheFirstRound() {
        CHECKS.dueDouble("a new object", new FenceHandshakes().mean(), 0.0);
        FenceHandshakes x = Setups.wishingAll();
        CHECKS.dueDouble("wishes alone", x.mean(), 0.0);
        x.save();
        x.round();
        CHECKS.dueDouble("after the first round", x.mean(), 8.0);
        x.undo();
        CHECKS.dueDouble("after undo", x.mean(), 0.0);
        x.round();
        x.restore();
        CHECKS.dueDouble("after restore", x.mean(), 0.0);
    }

    private static void from0To8HandshakesARound() {
        for (int wishes = 0; wishes <= 8; wishes++) {
            FenceHandshakes x = new FenceHandshakes();
            for (int p = 0; p < wishes; p++) {
                x.wish(p, p);
            }
            x.round();
            CHECKS.dueDouble("the first round", x.mean(), (double) wishes);
            x.round();
            CHECKS.dueDouble("the second one, without handshakes", x.mean(), wishes / 2.0);
        }
        FenceHandshakes all = Setups.wishingAll();
        Setups.makeRounds(all, 8);
        CHECKS.dueDouble("eight rounds of eight", all.mean(), 8.0);
        all.round();
        CHECKS.dueDouble("and an empty one", all.mean(), 64.0 / 9.0);
    }

    private static void noWholeNumbers() {
        FenceHandshakes x = new FenceHandshakes();
        x.wish(0, 0);
        for (int rounds = 1; rounds <= 300; rounds++) {
            x.round();
            if (rounds % 10 == 0 || rounds < 10) {
                CHECKS.dueDouble("one in " + rounds, x.mean(), 1.0 / rounds);
            }
        }
    }
}
