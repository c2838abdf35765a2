/** Terms, 'Wishes and handshakes' and 'A round': a test for each sentence that names a boundary case. */
public final class MatchingEdgesTest {
    private static final String WISHES = "Wishes and handshakes";
    private static final String ROUND = "A round";
    private static final Checks CHECKS = new Checks();

    public static void main(String[] args) {
        CHECKS.sentence(WISHES, "It is open until they have shaken hands", MatchingEdgesTest::openUntilShaken);
        CHECKS.sentence(WISHES, "or it is withdrawn", MatchingEdgesTest::openUntilWithdrawn);
        CHECKS.sentence(WISHES, "For each pair there is at most one open wish at a time.",
            MatchingEdgesTest::oneOpenWishOfAPair);
        CHECKS.sentence(WISHES, "A wish is possible if the two people can meet.", MatchingEdgesTest::possibleWishes);
        CHECKS.sentence(WISHES, "The order of wishes is by their left people, and with the same left person "
            + "by their right people.", MatchingEdgesTest::orderOfWishes);
        CHECKS.sentence(WISHES, "A matching is a set of possible open wishes in which no person is twice.",
            MatchingEdgesTest::nobodyTwice);
        CHECKS.sentence(WISHES, "A matching is a set of possible open wishes", MatchingEdgesTest::emptyMatching);
        CHECKS.sentence(WISHES, "A matching is a greatest one if no matching has more wishes.",
            MatchingEdgesTest::noneHasMore);
        CHECKS.sentence(WISHES, "where having no partner counts as greater than any partner",
            MatchingEdgesTest::noPartnerIsGreater);
        CHECKS.sentence(WISHES, "at the first left person whose partners differ, the matching with the lesser "
            + "partner is the first one", MatchingEdgesTest::firstDifferenceDecides);
        CHECKS.sentence(WISHES, "the partners of the left people in both matchings are compared, from the left "
            + "person 0 on", MatchingEdgesTest::lastDifferenceDecides);
        CHECKS.sentence(ROUND, "In a round, of all greatest matchings the first one is taken",
            MatchingEdgesTest::firstOnesOfAll);
        CHECKS.sentence(ROUND, "of all greatest matchings the first one is taken", MatchingEdgesTest::exchangesForIt);
        CHECKS.sentence(ROUND, "of all greatest matchings the first one is taken", MatchingEdgesTest::allSmallSets);
        CHECKS.sentence(ROUND, "of all greatest matchings the first one is taken", MatchingEdgesTest::scatteredSets);
        CHECKS.sentence(ROUND, "the people of each of its wishes shake hands, and these wishes are no longer open",
            MatchingEdgesTest::onlyItsWishes);
        CHECKS.sentence(ROUND, "Then each feud becomes one round shorter", MatchingEdgesTest::eachFeudIsShorter);
        CHECKS.sentence(ROUND, "one that has no rounds left is over", MatchingEdgesTest::feudIsOver);
        CHECKS.sentence(ROUND, "Then each feud", MatchingEdgesTest::feudsHinderInTheirLastRound);
        CHECKS.sentence(ROUND, "Rounds are numbered from 0.", MatchingEdgesTest::firstRoundIsRound0);
        CHECKS.end();
    }

    private static void openUntilShaken() {
        FenceHandshakes x = new FenceHandshakes();
        x.wish(7, 7);
        x.quarrel(7, 7, 2);
        for (int n = 0; n < 2; n++) {
            x.round();
            CHECKS.due("open after round " + n, x.pair(7, 7, 0), 1);
        }
        CHECKS.due("they shake hands", x.round(), 1);
        CHECKS.due("no longer open", x.pair(7, 7, 0), 0);
        CHECKS.due("a handshake", x.pair(7, 7, 2), 1);
        CHECKS.due("and only once", x.round(), 0);
        FenceHandshakes y = new FenceHandshakes();
        y.wish(0, 7);
        Setups.makeRounds(y, 210);
        CHECKS.due("open as long as they cannot meet", y.pair(0, 7, 0), 1);
    }

    private static void openUntilWithdrawn() {
        FenceHandshakes x = new FenceHandshakes();
        x.wish(0, 0);
        x.wish(0, 1);
        x.withdraw(0, 0);
        CHECKS.due("withdrawn", x.pair(0, 0, 0), 0);
        CHECKS.due("another one is open", x.pair(0, 1, 0), 1);
        CHECKS.due("no handshake of it", x.round(), 1);
        CHECKS.due("tally", x.pair(0, 0, 2), 0);
    }

    private static void oneOpenWishOfAPair() {
        FenceHandshakes x = new FenceHandshakes();
        for (int pair = 0; pair < 64; pair++) {
            x.wish(pair / 8, pair % 8);
            CHECKS.due("the pair " + pair + " once more", x.wish(pair / 8, pair % 8), -4);
            CHECKS.due("open", x.count(0), pair + 1);
        }
        FenceHandshakes y = new FenceHandshakes();
        y.wish(3, 3);
        y.round();
        CHECKS.due("a new one after the handshake", y.wish(3, 3), 1);
        CHECKS.due("but one alone", y.wish(3, 3), -4);
        y.withdraw(3, 3);
        CHECKS.due("a new one after the withdrawal", y.wish(3, 3), 1);
    }

    private static void possibleWishes() {
        FenceHandshakes x = new FenceHandshakes();
        Setups.addWishes(x, 00, 07, 11, 77);
        x.quarrel(1, 1, 1);
        x.quarrel(0, 7, 1);
        CHECKS.due("possible", x.count(1), 2);
        CHECKS.due("linked and without feud", x.person(true, 0, 2), 1);
        CHECKS.due("linked with a feud", x.person(true, 1, 2), 0);
        CHECKS.due("not linked, with a feud", x.person(false, 7, 2), 1);
        x.reconcile(0, 7);
        CHECKS.due("not linked, without feud", x.count(1), 2);
        x.link(0, 3, true);
        CHECKS.due("linked then", x.count(1), 3);
        x.quarrel(0, 0, 50);
        CHECKS.due("a new feud", x.count(1), 2);
    }

    private static void orderOfWishes() {
        // However they are added: 0-0, 1-0, 1-1, 2-0. Any other order gives one of them another number.
        int[][] added = {{00, 10, 11, 20}, {20, 11, 10, 00}, {11, 20, 00, 10}, {00, 10, 20, 11}, {20, 10, 11, 00}};
        for (int[] order : added) {
            FenceHandshakes x = Setups.wishing(order);
            CHECKS.due("0 0", x.planned(0, 0), 1);
            CHECKS.due("1 0", x.planned(1, 0), 2);
            CHECKS.due("1 1", x.planned(1, 1), 1);
            CHECKS.due("2 0", x.planned(2, 0), 0);
        }
        FenceHandshakes y = new FenceHandshakes();
        for (int link = 15; link >= 0; link--) {
            y.link(link / 4, link % 4, true);
        }
        for (int right = 7; right >= 0; right--) {
            y.wish(4, right);
        }
        for (int right = 0; right < 8; right++) {
            CHECKS.due("with the same left person, 4 " + right, y.planned(4, right), right);
        }
    }

    private static void nobodyTwice() {
        FenceHandshakes x = Setups.wishing(70, 71, 72, 73, 74, 75, 76, 77);
        CHECKS.due("one of a left person's eight", x.count(6), 1);
        FenceHandshakes y = Setups.wishing(07, 17, 27, 37, 47, 57, 67, 77);
        CHECKS.due("one of a right person's eight", y.count(6), 1);
        FenceHandshakes z = Setups.wishing(00, 01, 10, 11, 20, 21);
        CHECKS.due("two right people", z.round(), 2);
        for (int p = 0; p < 3; p++) {
            CHECKS.due("handshakes of left " + p, z.person(true, p, 4), p < 2 ? 1 : 0);
        }
        CHECKS.due("handshakes of right 0", z.person(false, 0, 4), 1);
        CHECKS.due("handshakes of right 1", z.person(false, 1, 4), 1);
    }

    private static void emptyMatching() {
        FenceHandshakes x = new FenceHandshakes();
        CHECKS.due("without wishes", x.count(6), 0);
        CHECKS.due("a round without wishes", x.round(), 0);
        x.wish(0, 2);
        x.wish(1, 1);
        x.quarrel(1, 1, 9);
        CHECKS.due("without possible wishes", x.count(6), 0);
        CHECKS.due("a round without possible wishes", x.round(), 0);
        CHECKS.due("both are open yet", x.count(0), 2);
        for (int p = 0; p < 8; p++) {
            CHECKS.due("partner of left " + p, x.partner(true, p), -5);
            CHECKS.due("partner of right " + p, x.partner(false, p), -5);
        }
    }

    private static void noneHasMore() {
        FenceHandshakes x = Setups.wishing(60, 67, 70);
        CHECKS.due("6 goes to 7, so that 7 has 0", x.partner(true, 6), 7);
        CHECKS.due("two", x.count(6), 2);
        FenceHandshakes all = Setups.wishingAll();
        CHECKS.due("eight at the most", all.count(6), 8);
        // 7 has only 0, and each of the others has to go one further for it.
        FenceHandshakes chain = Setups.wishing(00, 01, 11, 12, 22, 23, 33, 34, 44, 45, 55, 56, 66, 67, 70);
        CHECKS.due("all eight by seven exchanges", chain.count(6), 8);
        // Turned about: 7 has only 6, each of 6 to 1 has to go one back, and 0 to the far end.
        FenceHandshakes back = Setups.wishing(00, 07, 11, 10, 22, 21, 33, 32, 44, 43, 55, 54, 66, 65, 76);
        CHECKS.due("all eight by seven exchanges back", back.count(6), 8);
        // Without a free place at the end no exchange makes room.
        FenceHandshakes seven = Setups.wishing(00, 11, 10, 22, 21, 33, 32, 44, 43, 55, 54, 66, 65, 76);
        CHECKS.due("seven for seven right people", seven.count(6), 7);
    }

    private static void noPartnerIsGreater() {
        FenceHandshakes x = Setups.wishing(07, 17);
        CHECKS.due("even 7 is less than none", x.partner(true, 0), 7);
        CHECKS.due("1 has none", x.partner(true, 1), -5);
        FenceHandshakes y = Setups.wishing(77, 67);
        CHECKS.due("6 is ahead of 7", y.partner(true, 6), 7);
        CHECKS.due("7 has none", y.partner(true, 7), -5);
        // 0-3 with 1-2, or 1-2 with 2-3: no others are greatest ones.
        FenceHandshakes z = Setups.wishing(03, 12, 13, 23);
        CHECKS.due("0 has a partner", z.partner(true, 0), 3);
        CHECKS.due("1 takes the other", z.partner(true, 1), 2);
        CHECKS.due("2 has none", z.partner(true, 2), -5);
    }

    private static void firstDifferenceDecides() {
        // 0-0 with 1-7 is ahead of 0-1 with 1-0, as 0 is compared before 1.
        FenceHandshakes x = Setups.wishing(00, 01, 10, 17);
        CHECKS.due("partner of 0", x.partner(true, 0), 0);
        CHECKS.due("partner of 1", x.partner(true, 1), 7);
        // Whoever comes first has the lesser one, and the last one has what is left.
        FenceHandshakes y = Setups.wishing(00, 07, 10, 17);
        CHECKS.due("0 has the least", y.partner(true, 0), 0);
        CHECKS.due("1 has the greatest", y.partner(true, 1), 7);
        // 0 has its least one, though with 0-1 person 1 would have its least one instead.
        FenceHandshakes z = Setups.wishing(00, 01, 10, 12, 21, 22, 33);
        int[] partners = {0, 2, 1, 3};
        for (int p = 0; p < 4; p++) {
            CHECKS.due("partner of " + p + " in the third", z.partner(true, p), partners[p]);
        }
    }

    private static void lastDifferenceDecides() {
        FenceHandshakes x = Setups.wishing(66, 67, 76, 77);
        CHECKS.due("partner of 6", x.partner(true, 6), 6);
        CHECKS.due("partner of 7", x.partner(true, 7), 7);
        FenceHandshakes y = Setups.wishing(00, 11, 22, 33, 44, 55, 66, 76, 77, 75);
        CHECKS.due("only 7 has a choice, 5 and 6 being taken", y.partner(true, 7), 7);
        FenceHandshakes z = Setups.wishing(00, 11, 22, 33, 44, 55, 76, 77);
        CHECKS.due("only 7 has a choice", z.partner(true, 7), 6);
    }

    private static void firstOnesOfAll() {
        // With all 64 wishes everyone shakes hands in each round, and the least partner that is new to
        // both the left person and the round is that whose number has the bits of both.
        FenceHandshakes x = Setups.wishingAll();
        for (int round = 0; round < 8; round++) {
            for (int l = 0; l < 8; l++) {
                CHECKS.due("round " + round + ", partner of " + l, x.partner(true, l), l ^ round);
            }
            CHECKS.due("handshakes of round " + round, x.round(), 8);
        }
        CHECKS.due("open at last", x.count(0), 0);
        CHECKS.due("handshakes", x.count(5), 64);
        CHECKS.due("a ninth round", x.round(), 0);
    }

    private static void duePartners(String what, int[] pairs, int... partners) {
        FenceHandshakes x = Setups.wishing(pairs);
        int size = 0;
        for (int l = 0; l < 8; l++) {
            boolean hasPartner = l < partners.length && partners[l] != Matchings.NOBODY;
            CHECKS.due(what + ", partner of " + l, x.partner(true, l), hasPartner ? partners[l] : -5);
            if (hasPartner) {
                CHECKS.due(what + ", partner of right " + partners[l], x.partner(false, partners[l]), l);
                size++;
            }
        }
        CHECKS.due(what + ", handshakes", x.round(), size);
    }

    private static void exchangesForIt() {
        int none = Matchings.NOBODY;
        // 0 can have 1, if both others go on: nobody but 2 can have 0, and then nobody but 1 can have 2.
        duePartners("all three in turn", new int[] {00, 01, 02, 11, 12, 20}, 1, 2, 0);
        // 0 cannot have 0, as then 1 and 2 had 1 alone.
        duePartners("not the least one", new int[] {00, 02, 10, 11, 20, 21}, 2, 0, 1);
        // 5 can only have 0, so that the least one for 1 is 1, and 4 goes to 2 for it.
        duePartners("some without partner", new int[] {10, 11, 13, 33, 35, 41, 42, 50}, none, 1, none, 3, 2, 0);
        // 1 has its least one, as 4 can go to 3, which lets 2 have only 4.
        duePartners("a later one makes room", new int[] {10, 11, 23, 24, 40, 43}, none, 0, 4, none, 3);
        // Five right people are wished for, and all have partners only if 1 and 2 go as far as they can.
        duePartners("all right people", new int[] {00, 05, 11, 14, 22, 25, 30, 31, 41, 52}, 0, 4, 5, 1, none, 2);
        // 2 takes 4, so that 4 can have 1; 3 wishes for nothing.
        duePartners("one goes to the far end", new int[] {00, 02, 12, 13, 20, 21, 24, 40, 41}, 0, 2, 4, none, 1);
    }

    private static void allSmallSets() {
        int[][] people = {{0, 1, 2}, {5, 6, 7}, {0, 3, 7}};
        for (int[] three : people) {
            for (int set = 0; set < 512; set++) {
                int[] pairs = Matchings.setOf(set, three, three);
                duePartners("set " + set, pairs, new Matchings(pairs).firstOfTheGreatest());
            }
        }
    }

    private static void scatteredSets() {
        for (int set = 0; set < 1000; set++) {
            int[] pairs = Matchings.scatteredSet(set);
            duePartners("scattered set " + set, pairs, new Matchings(pairs).firstOfTheGreatest());
        }
    }

    private static void onlyItsWishes() {
        FenceHandshakes x = Setups.wishing(00, 01, 10, 77, 76, 34);
        x.quarrel(3, 4, 9);
        CHECKS.due("three shake hands", x.round(), 3);
        int[] fulfilled = {01, 10, 76};
        int[] open = {00, 77, 34};
        for (int p : fulfilled) {
            CHECKS.due(p + " is no longer open", x.pair(p / 10, p % 10, 0), 0);
            CHECKS.due(p + " have shaken hands", x.pair(p / 10, p % 10, 2), 1);
        }
        for (int p : open) {
            CHECKS.due(p + " is open yet", x.pair(p / 10, p % 10, 0), 1);
            CHECKS.due(p + " have not shaken hands", x.pair(p / 10, p % 10, 2), 0);
        }
        CHECKS.due("open", x.count(0), 3);
        CHECKS.due("handshakes", x.count(5), 3);
    }

    private static void eachFeudIsShorter() {
        FenceHandshakes x = new FenceHandshakes();
        for (int pair = 0; pair < 64; pair++) {
            if (pair != 9) {
                x.quarrel(pair / 8, pair % 8, pair % 49 + 2);
            }
        }
        x.round();
        for (int pair = 0; pair < 64; pair++) {
            int want = pair == 9 ? 0 : pair % 49 + 1;
            CHECKS.due("feud of the pair " + pair, x.pair(pair / 8, pair % 8, 1), want);
        }
        CHECKS.due("feuds", x.count(2), 63);
        FenceHandshakes y = new FenceHandshakes();
        y.quarrel(0, 0, 50);
        y.round();
        CHECKS.due("the longest one", y.pair(0, 0, 1), 49);
    }

    private static void feudIsOver() {
        FenceHandshakes x = new FenceHandshakes();
        x.quarrel(0, 0, 1);
        x.quarrel(7, 7, 1);
        x.quarrel(0, 7, 2);
        x.round();
        CHECKS.due("the first is over", x.pair(0, 0, 1), 0);
        CHECKS.due("the last is over", x.pair(7, 7, 1), 0);
        CHECKS.due("one is left", x.count(2), 1);
        CHECKS.due("there is none to end", x.reconcile(0, 0), -4);
        x.round();
        x.round();
        CHECKS.due("and gets no less than none", x.pair(0, 7, 1), 0);
        CHECKS.due("no feud is left", x.count(2), 0);
        CHECKS.due("a new one replaces none", x.quarrel(0, 7, 5), 0);
    }

    private static void feudsHinderInTheirLastRound() {
        FenceHandshakes x = new FenceHandshakes();
        x.wish(0, 0);
        x.quarrel(0, 0, 1);
        CHECKS.due("no handshake while it lasts", x.round(), 0);
        CHECKS.due("a handshake in the round behind it", x.round(), 1);
    }

    private static void firstRoundIsRound0() {
        FenceHandshakes x = new FenceHandshakes();
        CHECKS.due("before the round 0", x.count(4), 0);
        for (int n = 1; n <= 60; n++) {
            x.round();
            CHECKS.due("rounds so far", x.count(4), n);
        }
    }
}
