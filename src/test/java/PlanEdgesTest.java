/** Terms, 'Plans', and promise 21: a test for each sentence that names a boundary case. */
public final class PlanEdgesTest {
    private static final String PLANS = "Plans";
    private static final String PROMISE = "Promise 21";
    private static final Checks CHECKS = new Checks();

    public static void main(String[] args) {
        CHECKS.sentence(PLANS, "A plan gives each possible open wish a number", PlanEdgesTest::possibleOnesAlone);
        CHECKS.sentence(PLANS, "such that no person has the same number in two wishes", PlanEdgesTest::noNumberTwice);
        CHECKS.sentence(PLANS, "The number of wishes of a person is counted for the possible open wishes",
            PlanEdgesTest::impossibleOnesDoNotCount);
        CHECKS.sentence(PLANS, "let d be the greatest of these numbers", PlanEdgesTest::asManyNumbersAsWishes);
        CHECKS.sentence(PLANS, "with the numbers 0 to d - 1", PlanEdgesTest::numbersOfAStar);
        CHECKS.sentence(PLANS, "with the numbers 0 to d - 1", PlanEdgesTest::numbersOfTheFullPlan);
        CHECKS.sentence(PLANS, "let a be the least number that no wish of l has so far",
            PlanEdgesTest::leastOfTheLeftPerson);
        CHECKS.sentence(PLANS, "and b the least number that no wish of r has so far",
            PlanEdgesTest::leastOfTheRightPerson);
        CHECKS.sentence(PLANS, "If a is also not yet a number of a wish of r, the wish gets a.",
            PlanEdgesTest::withoutPath);
        CHECKS.sentence(PLANS, "the path begins with the wish of r that has the number a", PlanEdgesTest::pathOfOne);
        CHECKS.sentence(PLANS, "goes on with the wish of its left person that has the number b",
            PlanEdgesTest::pathOfTwo);
        CHECKS.sentence(PLANS, "then with the wish of that one's right person that has the number a",
            PlanEdgesTest::pathOfThree);
        CHECKS.sentence(PLANS, "and so on, as long as there is such a wish", PlanEdgesTest::longestPath);
        CHECKS.sentence(PLANS, "all wishes on the path that have the number a get b, and those that have b get a",
            PlanEdgesTest::pathWithALesserSecondNumber);
        CHECKS.sentence(PLANS, "Then the wish of l and r gets a.", PlanEdgesTest::aBehindThePath);
        CHECKS.sentence(PLANS, "The wishes are gone through in their order.", PlanEdgesTest::inTheirOrder);
        CHECKS.sentence(PLANS, "The plan of the present wishes", PlanEdgesTest::madeAnew);
        CHECKS.sentence(PLANS, "The plan of the present wishes is made as follows", PlanEdgesTest::scatteredSets);
        CHECKS.sentence(PROMISE, "left: 0 to 7", PlanEdgesTest::leftPeople);
        CHECKS.sentence(PROMISE, "right: 0 to 7", PlanEdgesTest::rightPeople);
        CHECKS.sentence(PROMISE, "NO_SUCH if there is no such person", PlanEdgesTest::plansOfNobody);
        CHECKS.sentence(PROMISE, "NONE if there is no open wish of this pair", PlanEdgesTest::noOpenWish);
        CHECKS.sentence(PROMISE, "or it is not possible", PlanEdgesTest::notPossible);
        CHECKS.end();
    }

    /** The numbers are given pair by pair, each pair as left person, right person, number. */
    private static void duePlan(FenceHandshakes x, int... triples) {
        for (int triple : triples) {
            int left = triple / 100;
            int right = triple / 10 % 10;
            CHECKS.due("number of " + left + " " + right, x.planned(left, right), triple % 10);
        }
    }

    private static void possibleOnesAlone() {
        FenceHandshakes none = Setups.allLinked();
        for (int pair = 0; pair < 64; pair++) {
            CHECKS.due("without wishes, pair " + pair, none.planned(pair / 8, pair % 8), -5);
        }
        FenceHandshakes x = Setups.wishing(00, 77, 34);
        x.quarrel(3, 4, 1);
        for (int pair = 0; pair < 64; pair++) {
            int want = pair == 0 || pair == 63 ? 0 : -5;
            CHECKS.due("pair " + pair, x.planned(pair / 8, pair % 8), want);
        }
    }

    private static void noNumberTwice() {
        FenceHandshakes x = Setups.wishing(00, 01, 02, 10, 11, 20, 22, 23, 32, 33, 30, 70, 73, 77, 67, 07);
        int[] wishesOfLeft = {4, 2, 3, 3, 0, 0, 1, 3};
        int[] wishesOfRight = {5, 2, 3, 3, 0, 0, 0, 3};
        for (int p = 0; p < 8; p++) {
            CHECKS.due("numbers of left " + p, numbersOf(x, true, p), wishesOfLeft[p]);
            CHECKS.due("numbers of right " + p, numbersOf(x, false, p), wishesOfRight[p]);
        }
    }

    /** How many different numbers the wishes of a person have. */
    private static int numbersOf(FenceHandshakes x, boolean isLeft, int person) {
        int numbers = 0;
        for (int other = 0; other < 8; other++) {
            int number = isLeft ? x.planned(person, other) : x.planned(other, person);
            numbers |= number < 0 ? 0 : 1 << number;
        }
        return Integer.bitCount(numbers);
    }

    private static void impossibleOnesDoNotCount() {
        FenceHandshakes x = new FenceHandshakes();
        for (int right = 7; right >= 0; right--) {
            x.wish(0, right);
        }
        x.quarrel(0, 0, 50);
        CHECKS.due("the greatest number of possible ones", x.count(7), 1);
        CHECKS.due("0 1 has the only number", x.planned(0, 1), 0);
        for (int right = 2; right < 8; right++) {
            CHECKS.due("0 " + right, x.planned(0, right), -5);
        }
    }

    private static void asManyNumbersAsWishes() {
        for (int set = 0; set < 300; set++) {
            FenceHandshakes x = Setups.wishing(Matchings.scatteredSet(set));
            int greatest = -1;
            for (int pair = 0; pair < 64; pair++) {
                greatest = Math.max(greatest, x.planned(pair / 8, pair % 8));
            }
            CHECKS.due("the greatest number of the scattered set " + set, greatest, x.count(7) - 1);
            for (int p = 0; p < 8; p++) {
                CHECKS.due("numbers of left " + p, numbersOf(x, true, p), x.person(true, p, 2));
                CHECKS.due("numbers of right " + p, numbersOf(x, false, p), x.person(false, p, 2));
            }
        }
    }

    private static void scatteredSets() {
        for (int set = 0; set < 1000; set++) {
            int[] pairs = Matchings.scatteredSet(set);
            FenceHandshakes x = Setups.wishing(pairs);
            Model model = new Model();
            for (int link = 0; link < 16; link++) {
                model.link(link / 4, link % 4, true);
            }
            for (int p : pairs) {
                model.wish(p / 10, p % 10);
            }
            for (int p : pairs) {
                CHECKS.due("set " + set + ", " + p, x.planned(p / 10, p % 10), model.planned(p / 10, p % 10));
            }
        }
    }

    private static void numbersOfAStar() {
        FenceHandshakes left = Setups.wishing(70, 71, 72, 73, 74, 75, 76, 77);
        FenceHandshakes right = Setups.wishing(07, 17, 27, 37, 47, 57, 67, 77);
        for (int p = 0; p < 8; p++) {
            CHECKS.due("7 " + p, left.planned(7, p), p);
            // Each newcomer takes 0, and the one that had it gets the least number that 7 has not yet.
            CHECKS.due(p + " 7", right.planned(p, 7), (p + 1) % 8);
        }
    }

    private static void numbersOfTheFullPlan() {
        FenceHandshakes x = Setups.wishingAll();
        CHECKS.due("d", x.count(7), 8);
        for (int p = 0; p < 8; p++) {
            int ofLeft = 0;
            int ofRight = 0;
            for (int q = 0; q < 8; q++) {
                ofLeft |= 1 << x.planned(p, q);
                ofRight |= 1 << x.planned(q, p);
            }
            CHECKS.due("left " + p + " has 0 to 7", ofLeft, 255);
            CHECKS.due("right " + p + " has 0 to 7", ofRight, 255);
        }
    }

    private static void leastOfTheLeftPerson() {
        // 3 has 0 and 1 already, of which the right people know nothing.
        duePlan(Setups.wishing(30, 31, 32), 300, 311, 322);
        // 1-1 takes 0 from 0-1, so that 1-2 has 1, though the right person 2 has 0 free yet; 2-2 gets that.
        duePlan(Setups.wishing(01, 11, 22, 12), 11, 110, 121, 220);
    }

    private static void leastOfTheRightPerson() {
        // 0 has 1 at the right person 2; the right person 2 has 0 free, and 0-2 takes it for 1-2's 1.
        duePlan(Setups.wishing(01, 02, 10, 12), 11, 20, 100, 121);
        // 0-0 takes 1 and then 2-0 has 0; for 3-0 the least number that the right person 0 has not is 2.
        duePlan(Setups.wishing(00, 10, 20), 1, 102, 200);
    }

    private static void withoutPath() {
        // a is 0 and b is 0; then a is 1 and b is 0, but the wish gets a.
        duePlan(Setups.wishing(00, 01), 0, 11);
        // The right person 1 has 1 alone, so that 2-1 gets 0 at once.
        duePlan(Setups.wishing(00, 01, 21), 0, 11, 210);
    }

    private static void pathOfOne() {
        duePlan(Setups.wishing(00, 10), 1, 100);
        duePlan(Setups.wishing(67, 77), 671, 770);
    }

    private static void pathOfTwo() {
        duePlan(Setups.wishing(00, 01, 10), 1, 10, 100);
        duePlan(Setups.wishing(66, 67, 76), 661, 670, 760);
    }

    private static void pathOfThree() {
        duePlan(Setups.wishing(00, 01, 11, 20), 1, 10, 111, 200);
        duePlan(Setups.wishing(55, 56, 66, 75), 551, 560, 661, 750);
    }

    private static void longestPath() {
        // Seven left people with two wishes each are on the path from 0 that 7-0 begins.
        FenceHandshakes x = Setups.wishing(00, 01, 11, 12, 22, 23, 33, 34, 44, 45, 55, 56, 66, 67);
        for (int l = 0; l < 7; l++) {
            CHECKS.due(l + " " + l + " before", x.planned(l, l), 0);
            CHECKS.due(l + " " + (l + 1) + " before", x.planned(l, l + 1), 1);
        }
        x.wish(7, 0);
        CHECKS.due("7 0", x.planned(7, 0), 0);
        for (int l = 0; l < 7; l++) {
            CHECKS.due(l + " " + l, x.planned(l, l), 1);
            CHECKS.due(l + " " + (l + 1), x.planned(l, l + 1), 0);
        }
        x.wish(7, 7);
        CHECKS.due("7 7", x.planned(7, 7), 1);
        CHECKS.due("6 7 keeps its number", x.planned(6, 7), 0);
    }

    private static void pathWithALesserSecondNumber() {
        // 1-2 wants 1, which 0-2 has; b is 0, which 0-1 has, and the path ends at the right person 1.
        duePlan(Setups.wishing(01, 02, 10, 12), 11, 20, 100, 121);
    }

    private static void aBehindThePath() {
        duePlan(Setups.wishing(00, 10), 1, 100);
        duePlan(Setups.wishing(01, 02, 10, 12), 11, 20, 100, 121);
        // 1-5 wants 2, which 0-5 has; b is 0, which 0-3 has, and the path ends at the right person 3.
        duePlan(Setups.wishing(03, 04, 05, 10, 11, 15), 32, 41, 50, 100, 111, 152);
    }

    private static void inTheirOrder() {
        // 2-0 comes last, so that it has 0, and 1-0 got 2 as 1-1 had 1 by then.
        int[][] added = {{00, 10, 11, 20}, {20, 11, 10, 00}, {11, 20, 00, 10}, {00, 10, 20, 11}};
        for (int[] order : added) {
            duePlan(Setups.wishing(order), 1, 102, 111, 200);
        }
        FenceHandshakes x = Setups.wishing(00, 10, 20);
        x.withdraw(0, 0);
        x.wish(0, 0);
        duePlan(x, 1, 102, 200);
    }

    private static void madeAnew() {
        FenceHandshakes x = Setups.wishing(00, 10);
        duePlan(x, 1, 100);
        x.withdraw(1, 0);
        duePlan(x, 0);
        CHECKS.due("the withdrawn one", x.planned(1, 0), -5);
        x.wish(1, 0);
        x.round();
        CHECKS.due("the fulfilled one", x.planned(0, 0), -5);
        duePlan(x, 100);
    }

    private static void leftPeople() {
        CHECKS.range("left", 0, 7, -1, v -> Setups.wishing(03, 13, 23, 33, 43, 53, 63, 73).planned(v, 3),
            v -> (v + 1) % 8);
    }

    private static void rightPeople() {
        CHECKS.range("right", 0, 7, -1, v -> Setups.wishing(30, 31, 32, 33, 34, 35, 36, 37).planned(3, v), v -> v);
    }

    private static void plansOfNobody() {
        FenceHandshakes x = Setups.wishingAll();
        int[][] wrong = {{0, 8}, {7, -1}, {1, -8}, {-1, 8}, {-1, 16}, {8, -1}, {8, -64}, {8, 8}, {-1, -1}};
        for (int[] w : wrong) {
            CHECKS.due("planned " + w[0] + " " + w[1], x.planned(w[0], w[1]), -1);
        }
    }

    private static void noOpenWish() {
        FenceHandshakes x = Setups.wishing(07, 10, 70);
        int[] without = {00, 77, 17, 01, 71, 67};
        for (int p : without) {
            CHECKS.due("no wish of " + p, x.planned(p / 10, p % 10), -5);
        }
        x.withdraw(7, 0);
        CHECKS.due("withdrawn", x.planned(7, 0), -5);
    }

    private static void notPossible() {
        FenceHandshakes x = new FenceHandshakes();
        Setups.addWishes(x, 00, 07, 77, 11);
        x.quarrel(7, 7, 1);
        CHECKS.due("over unlinked gates", x.planned(0, 7), -5);
        CHECKS.due("in a feud", x.planned(7, 7), -5);
        CHECKS.due("possible", x.planned(1, 1), 0);
        x.round();
        CHECKS.due("after the feud", x.planned(7, 7), 0);
        x.move(true, 0, 3);
        CHECKS.due("after the move", x.planned(0, 7), 1);
        CHECKS.due("which 7 7 made room for", x.planned(7, 7), 0);
    }
}
