import java.util.ArrayList;
import java.util.Arrays;
import java.util.List;

/** Matchings by the words of the document: every one is tried. Each is told by the partners of its left people. */
final class Matchings {
    /** Greater than any partner. */
    static final int NOBODY = 8;

    private final boolean[][] wished = new boolean[8][8];
    private final int[] partners = new int[8];
    private List<int[]> greatest = new ArrayList<>();
    private int most;

    /** Pairs are written with two digits: the left person and the right one. */
    Matchings(int... pairs) {
        for (int p : pairs) {
            wished[p / 10][p % 10] = true;
        }
        tryAllFrom(0, new boolean[8], 0);
    }

    private void tryAllFrom(int left, boolean[] taken, int size) {
        if (left == 8) {
            keep(size);
            return;
        }
        for (int right = 0; right < 8; right++) {
            if (wished[left][right] && !taken[right]) {
                taken[right] = true;
                partners[left] = right;
                tryAllFrom(left + 1, taken, size + 1);
                taken[right] = false;
            }
        }
        partners[left] = NOBODY;
        tryAllFrom(left + 1, taken, size);
    }

    private void keep(int size) {
        if (size > most) {
            most = size;
            greatest = new ArrayList<>();
        }
        if (size == most) {
            greatest.add(partners.clone());
        }
    }

    int size() {
        return most;
    }

    int[] firstOfTheGreatest() {
        int[] first = greatest.get(0);
        for (int[] other : greatest) {
            if (Arrays.compare(other, first) < 0) {
                first = other;
            }
        }
        return first;
    }

    /** The left people with wishes who have no partner in some greatest matching, as a bit mask. */
    int leftOutInSome() {
        int people = 0;
        for (int left = 0; left < 8; left++) {
            boolean wishes = false;
            for (boolean wish : wished[left]) {
                wishes = wishes || wish;
            }
            for (int[] matching : greatest) {
                if (wishes && matching[left] == NOBODY) {
                    people |= 1 << left;
                }
            }
        }
        return people;
    }

    /** The set that a number stands for among the wishes of three left people and three right ones. */
    static int[] setOf(int number, int[] lefts, int[] rights) {
        int[] pairs = new int[Integer.bitCount(number)];
        int at = 0;
        for (int bit = 0; bit < 9; bit++) {
            if ((number >> bit & 1) == 1) {
                pairs[at] = 10 * lefts[bit / 3] + rights[bit % 3];
                at++;
            }
        }
        return pairs;
    }

    /** Sets of 8 to 15 wishes among all people, the same ones each time. */
    static int[] scatteredSet(int number) {
        long seed = 1000003L * (number + 1);
        int[] pairs = new int[8 + number % 8];
        for (int at = 0; at < pairs.length; at++) {
            seed = seed * 6364136223846793005L + 1442695040888963407L;
            pairs[at] = 10 * (int) (seed >>> 33 & 7) + (int) (seed >>> 40 & 7);
        }
        return pairs;
    }
}
