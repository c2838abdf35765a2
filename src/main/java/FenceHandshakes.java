import java.util.Arrays;

/** Two clans who shake hands over a fence. DOC.md numbers the promises that the methods keep. */
public final class FenceHandshakes {
    /** There is no such person or gate. */
    public static final int NO_SUCH = -1;
    /** Another argument is out of its range. */
    public static final int BAD_VALUE = -2;
    /** There is no more room. */
    public static final int TOO_MANY = -3;
    /** The call is not possible in the present state. */
    public static final int NOT_POSSIBLE = -4;
    /** There is no result; this is not an error code. */
    public static final int NONE = -5;

    private static final int PEOPLE = 8;
    private static final int PAIRS = PEOPLE * PEOPLE;
    private static final int GATES = 4;
    private static final int PEOPLE_AT_A_GATE = 2;
    private static final int EVERYONE = (1 << PEOPLE) - 1;
    private static final int LONGEST_FEUD = 50;
    private static final int LEAST_CHARACTER = 32;
    private static final int GREATEST_CHARACTER = 126;
    private static final int TEXT_ROOM = 80;
    private static final int HISTORY_ROOM = 5;
    private static final int MOST_ROUNDS = 200;
    private static final int CODE_OF_FAULT_0 = -100;

    // What can be told about a person, under the numbers of promise 16.
    private static final int GATE = 0;
    private static final int OPEN = 1;
    private static final int POSSIBLE = 2;
    private static final int FEUDS = 3;
    private static final int HANDSHAKES = 4;
    private static final int CAN_MEET = 5;

    private final Clans now = new Clans();
    private final Clans trial = new Clans();
    private final Clans snapshot = new Clans();
    private boolean hasSnapshot;
    private final History history = new History();
    private final WishText text = new WishText();
    private final Matching matching = new Matching();
    private final Plan plan = new Plan();

    /** Promise 1. */
    public FenceHandshakes() {
        hasSnapshot = false;
    }

    // ---- wishes

    /** Promise 2. */
    public int wish(int left, int right) {
        if (!arePeople(left, right)) {
            return NO_SUCH;
        }
        if (now.hasWish(left, right)) {
            return NOT_POSSIBLE;
        }
        history.keep(now);
        now.openWish(left, right);
        return now.numberOfWishes();
    }

    /** Promise 3. */
    public int withdraw(int left, int right) {
        if (!arePeople(left, right)) {
            return NO_SUCH;
        }
        if (!now.hasWish(left, right)) {
            return NOT_POSSIBLE;
        }
        history.keep(now);
        now.closeWish(left, right);
        return now.numberOfWishes();
    }

    // ---- feuds, gates

    /** Promise 4. */
    public int quarrel(int left, int right, int rounds) {
        if (!arePeople(left, right)) {
            return NO_SUCH;
        }
        if (rounds < 1 || rounds > LONGEST_FEUD) {
            return BAD_VALUE;
        }
        history.keep(now);
        int before = now.feudOf(left, right);
        now.setFeud(left, right, rounds);
        return before;
    }

    /** Promise 5. */
    public int reconcile(int left, int right) {
        if (!arePeople(left, right)) {
            return NO_SUCH;
        }
        int before = now.feudOf(left, right);
        if (before == 0) {
            return NOT_POSSIBLE;
        }
        history.keep(now);
        now.setFeud(left, right, 0);
        return before;
    }

    /** Promise 6. */
    public int link(int left, int right, boolean isLinked) {
        if (!isGate(left) || !isGate(right)) {
            return NO_SUCH;
        }
        history.keep(now);
        int before = asNumber(now.areLinked(left, right));
        now.setLinked(left, right, isLinked);
        return before;
    }

    /** Promise 7. */
    public int move(boolean isLeft, int person, int gate) {
        if (!isPerson(person) || !isGate(gate)) {
            return NO_SUCH;
        }
        history.keep(now);
        int before = now.gateOf(isLeft, person);
        now.setGate(isLeft, person, gate);
        return before;
    }

    // ---- rounds

    /** Promise 8. */
    public int round() {
        history.keep(now);
        return makeRound(now);
    }

    // ---- text

    /** Promise 9. */
    public int append(int character) {
        if (character < LEAST_CHARACTER || character > GREATEST_CHARACTER) {
            return BAD_VALUE;
        }
        if (!text.hasRoom()) {
            return TOO_MANY;
        }
        text.add(character);
        return text.length();
    }

    /** Promise 10. */
    public int clearText() {
        int before = text.length();
        text.empty();
        return before;
    }

    /** Promise 11. */
    public int fault() {
        return text.parse();
    }

    /** Promise 12. */
    public int read() {
        int faultAt = text.parse();
        if (faultAt != NONE) {
            return CODE_OF_FAULT_0 - faultAt;
        }
        history.keep(now);
        int before = now.numberOfWishes();
        for (int left = 0; left < PEOPLE; left++) {
            now.openWishes(left, text.rightsFor(left));
        }
        return now.numberOfWishes() - before;
    }

    // ---- history and snapshot

    /** Promise 13. */
    public int undo() {
        if (history.size() == 0) {
            return NONE;
        }
        history.takeLatest(now);
        return history.size();
    }

    /** Promise 14. */
    public int save() {
        snapshot.copyFrom(now);
        hasSnapshot = true;
        return now.numberOfWishes();
    }

    /** Promise 15. */
    public int restore() {
        if (!hasSnapshot) {
            return NOT_POSSIBLE;
        }
        history.keep(now);
        now.copyFrom(snapshot);
        return now.numberOfWishes();
    }

    // ---- queries; they change nothing

    /** Promise 16. */
    public int person(boolean isLeft, int person, int what) {
        if (!isPerson(person)) {
            return NO_SUCH;
        }
        switch (what) {
            case GATE:
                return now.gateOf(isLeft, person);
            case OPEN:
            case POSSIBLE:
            case FEUDS:
            case HANDSHAKES:
                return now.amountOfPerson(isLeft, person, what);
            case CAN_MEET:
                return now.peopleToMeet(isLeft, person);
            default:
                return BAD_VALUE;
        }
    }

    /** Promise 17. */
    public int pair(int left, int right, int what) {
        if (!arePeople(left, right)) {
            return NO_SUCH;
        }
        switch (what) {
            case 0:
                return asNumber(now.hasWish(left, right));
            case 1:
                return now.feudOf(left, right);
            case 2:
                return now.handshakesOf(left, right);
            case 3:
                return reasonAgainst(left, right);
            default:
                return BAD_VALUE;
        }
    }

    /** Promise 18. */
    public int isLinked(int left, int right) {
        if (!isGate(left) || !isGate(right)) {
            return NO_SUCH;
        }
        return asNumber(now.areLinked(left, right));
    }

    /** Promise 19. */
    public int partner(boolean isLeft, int person) {
        if (!isPerson(person)) {
            return NO_SUCH;
        }
        matching.takeFirst(now);
        return matching.partnerOf(isLeft, person);
    }

    /** Promise 20. */
    public int hindered() {
        matching.takeGreatest(now);
        return matching.leftsWhoMayBeLeftOut();
    }

    /** Promise 21. */
    public int planned(int left, int right) {
        if (!arePeople(left, right)) {
            return NO_SUCH;
        }
        plan.make(now);
        return plan.numberOf(left, right);
    }

    /** Promise 22. */
    public int count(int what) {
        switch (what) {
            case 0:
                return now.numberOfWishes();
            case 1:
                return now.amountOfAll(POSSIBLE);
            case 2:
                return now.amountOfAll(FEUDS);
            case 3:
                return now.linkedPairsOfGates();
            case 4:
                return now.roundsSoFar();
            case 5:
                return now.amountOfAll(HANDSHAKES);
            case 6:
                return greatestSize(now);
            case 7:
                return mostPossibleOfAPerson();
            case 8:
                return history.size();
            case 9:
                return text.length();
            default:
                return BAD_VALUE;
        }
    }

    // ---- what would be; nothing is changed

    /** Promise 23. */
    public int doneIn() {
        // Rounds change neither gates nor links, so that such a wish would outlast them all.
        if (now.hasWishOverUnlinkedGates()) {
            return NONE;
        }
        trial.copyFrom(now);
        for (int rounds = 0; rounds <= MOST_ROUNDS; rounds++) {
            if (trial.numberOfWishes() == 0) {
                return rounds;
            }
            makeRound(trial);
        }
        return NONE;
    }

    /** Promise 24. */
    public int bestLink() {
        int most = greatestSize(now);
        int best = NONE;
        trial.copyFrom(now);
        for (int left = 0; left < GATES; left++) {
            for (int right = 0; right < GATES; right++) {
                if (now.areLinked(left, right)) {
                    continue;
                }
                trial.setLinked(left, right, true);
                int size = greatestSize(trial);
                trial.setLinked(left, right, false);
                if (size > most) {
                    most = size;
                    best = GATES * left + right;
                }
            }
        }
        return best;
    }

    /** Promise 25. */
    public double mean() {
        int rounds = now.roundsSoFar();
        if (rounds == 0) {
            return 0.0;
        }
        return (double) now.amountOfAll(HANDSHAKES) / (double) rounds;
    }

    // ---- what several of the calls need

    private static boolean isPerson(int number) {
        return number >= 0 && number < PEOPLE;
    }

    private static boolean arePeople(int left, int right) {
        return isPerson(left) && isPerson(right);
    }

    private static boolean isGate(int number) {
        return number >= 0 && number < GATES;
    }

    private static int asNumber(boolean holds) {
        return holds ? 1 : 0;
    }

    private static boolean hasBit(int mask, int bit) {
        return (mask >> bit & 1) == 1;
    }

    private int makeRound(Clans clans) {
        matching.takeFirst(clans);
        for (int left = 0; left < PEOPLE; left++) {
            int right = matching.partnerOf(true, left);
            if (isPerson(right)) {
                clans.shakeHands(left, right);
            }
        }
        clans.endRound();
        return matching.size();
    }

    private int reasonAgainst(int left, int right) {
        if (!now.hasWish(left, right)) {
            return 1;
        }
        if (!now.areAtLinkedGates(left, right)) {
            return 2;
        }
        if (now.feudOf(left, right) > 0) {
            return 3;
        }
        matching.takeFirst(now);
        return matching.partnerOf(true, left) == right ? 0 : 4;
    }

    private int greatestSize(Clans clans) {
        matching.takeGreatest(clans);
        return matching.size();
    }

    private int mostPossibleOfAPerson() {
        int most = 0;
        for (int person = 0; person < PEOPLE; person++) {
            most = Math.max(most, now.amountOfPerson(true, person, POSSIBLE));
            most = Math.max(most, now.amountOfPerson(false, person, POSSIBLE));
        }
        return most;
    }

    /** The state. It lies in one row of numbers, so that the history can keep it by copying that row. */
    private static final class Clans {
        private static final int LEFT_GATES = 0;
        private static final int RIGHT_GATES = LEFT_GATES + PEOPLE;
        // For each left person the right people of its open wishes, as a bit mask.
        private static final int WISHES = RIGHT_GATES + PEOPLE;
        private static final int FEUD_ROUNDS = WISHES + PEOPLE;
        private static final int TALLIES = FEUD_ROUNDS + PAIRS;
        // All links as one bit mask, with the bit 4 * left gate + right gate.
        private static final int LINKS = TALLIES + PAIRS;
        private static final int ROUNDS = LINKS + 1;
        private static final int CELLS = ROUNDS + 1;

        private final int[] cells = new int[CELLS];

        Clans() {
            for (int person = 0; person < PEOPLE; person++) {
                cells[LEFT_GATES + person] = person / PEOPLE_AT_A_GATE;
                cells[RIGHT_GATES + person] = person / PEOPLE_AT_A_GATE;
            }
            for (int gate = 0; gate < GATES; gate++) {
                cells[LINKS] |= 1 << (GATES * gate + gate);
            }
        }

        void copyFrom(Clans other) {
            System.arraycopy(other.cells, 0, cells, 0, CELLS);
        }

        boolean hasWish(int left, int right) {
            return hasBit(cells[WISHES + left], right);
        }

        void openWish(int left, int right) {
            openWishes(left, 1 << right);
        }

        void openWishes(int left, int rights) {
            cells[WISHES + left] |= rights;
        }

        void closeWish(int left, int right) {
            cells[WISHES + left] &= ~(1 << right);
        }

        int feudOf(int left, int right) {
            return cells[FEUD_ROUNDS + PEOPLE * left + right];
        }

        void setFeud(int left, int right, int rounds) {
            cells[FEUD_ROUNDS + PEOPLE * left + right] = rounds;
        }

        int handshakesOf(int left, int right) {
            return cells[TALLIES + PEOPLE * left + right];
        }

        boolean areLinked(int leftGate, int rightGate) {
            return hasBit(cells[LINKS], GATES * leftGate + rightGate);
        }

        void setLinked(int leftGate, int rightGate, boolean areLinkedThen) {
            int bit = 1 << (GATES * leftGate + rightGate);
            if (areLinkedThen) {
                cells[LINKS] |= bit;
            } else {
                cells[LINKS] &= ~bit;
            }
        }

        int linkedPairsOfGates() {
            return Integer.bitCount(cells[LINKS]);
        }

        int gateOf(boolean isLeft, int person) {
            return cells[(isLeft ? LEFT_GATES : RIGHT_GATES) + person];
        }

        void setGate(boolean isLeft, int person, int gate) {
            cells[(isLeft ? LEFT_GATES : RIGHT_GATES) + person] = gate;
        }

        boolean areAtLinkedGates(int left, int right) {
            int link = GATES * cells[LEFT_GATES + left] + cells[RIGHT_GATES + right];
            return (cells[LINKS] >> link & 1) == 1;
        }

        boolean canMeet(int left, int right) {
            return feudOf(left, right) == 0 && areAtLinkedGates(left, right);
        }

        boolean isPossible(int left, int right) {
            return hasWish(left, right) && canMeet(left, right);
        }

        int peopleToMeet(boolean isLeft, int person) {
            int people = 0;
            for (int other = 0; other < PEOPLE; other++) {
                if (isLeft ? canMeet(person, other) : canMeet(other, person)) {
                    people |= 1 << other;
                }
            }
            return people;
        }

        boolean hasWishOverUnlinkedGates() {
            for (int left = 0; left < PEOPLE; left++) {
                for (int right = 0; right < PEOPLE; right++) {
                    if (hasWish(left, right) && !areAtLinkedGates(left, right)) {
                        return true;
                    }
                }
            }
            return false;
        }

        private int amountOfPair(int left, int right, int what) {
            switch (what) {
                case OPEN:
                    return asNumber(hasWish(left, right));
                case POSSIBLE:
                    return asNumber(isPossible(left, right));
                case FEUDS:
                    return asNumber(feudOf(left, right) > 0);
                case HANDSHAKES:
                    return handshakesOf(left, right);
                default:
                    return 0;
            }
        }

        int amountOfPerson(boolean isLeft, int person, int what) {
            int sum = 0;
            for (int other = 0; other < PEOPLE; other++) {
                sum += isLeft ? amountOfPair(person, other, what) : amountOfPair(other, person, what);
            }
            return sum;
        }

        int amountOfAll(int what) {
            int sum = 0;
            for (int left = 0; left < PEOPLE; left++) {
                sum += amountOfPerson(true, left, what);
            }
            return sum;
        }

        int numberOfWishes() {
            int sum = 0;
            for (int left = 0; left < PEOPLE; left++) {
                sum += Integer.bitCount(cells[WISHES + left]);
            }
            return sum;
        }

        int roundsSoFar() {
            return cells[ROUNDS];
        }

        void shakeHands(int left, int right) {
            cells[TALLIES + PEOPLE * left + right]++;
            closeWish(left, right);
        }

        void endRound() {
            for (int at = FEUD_ROUNDS; at < FEUD_ROUNDS + PAIRS; at++) {
                if (cells[at] > 0) {
                    cells[at]--;
                }
            }
            cells[ROUNDS]++;
        }
    }

    /** The states before the latest actions, in a ring of rows that are used again. */
    private static final class History {
        private final int[] rows = new int[HISTORY_ROOM * Clans.CELLS];
        private int oldest;
        private int size;

        int size() {
            return size;
        }

        void keep(Clans clans) {
            if (size == HISTORY_ROOM) {
                oldest = (oldest + 1) % HISTORY_ROOM;
                size--;
            }
            System.arraycopy(clans.cells, 0, rows, startOfRow(size), Clans.CELLS);
            size++;
        }

        void takeLatest(Clans clans) {
            if (size == 0) {
                return;
            }
            size--;
            System.arraycopy(rows, startOfRow(size), clans.cells, 0, Clans.CELLS);
        }

        private int startOfRow(int age) {
            return (oldest + age) % HISTORY_ROOM * Clans.CELLS;
        }
    }

    /** The text, and the pairs of the list that it holds. */
    private static final class WishText {
        private final char[] signs = new char[TEXT_ROOM];
        private int length;
        // For each left person the right people of its pairs in the list, as a bit mask.
        private final int[] rows = new int[PEOPLE];
        // The group that is being parsed.
        private int lefts;
        private int rights;
        private boolean isBehindDash;

        int length() {
            return length;
        }

        boolean hasRoom() {
            return length < TEXT_ROOM;
        }

        void add(int sign) {
            if (hasRoom()) {
                signs[length] = (char) sign;
                length++;
            }
        }

        void empty() {
            length = 0;
        }

        int rightsFor(int left) {
            return rows[left];
        }

        /** The fault, or NONE if the text is a list, whose pairs rightsFor then tells. */
        int parse() {
            Arrays.fill(rows, 0);
            beginGroup();
            for (int at = 0; at < length && at < TEXT_ROOM; at++) {
                if (!takesSign(signs[at])) {
                    return at;
                }
            }
            if (rights == 0) {
                return length;
            }
            endGroup();
            return NONE;
        }

        private void beginGroup() {
            lefts = 0;
            rights = 0;
            isBehindDash = false;
        }

        private void endGroup() {
            for (int left = 0; left < PEOPLE; left++) {
                if (hasBit(lefts, left)) {
                    rows[left] |= rights;
                }
            }
        }

        private boolean takesSign(char sign) {
            if (sign >= '0' && sign < '0' + PEOPLE) {
                return takesPerson(1 << (sign - '0'));
            }
            if (sign == '-' && lefts != 0 && !isBehindDash) {
                isBehindDash = true;
                return true;
            }
            if (sign == ',' && rights != 0) {
                endGroup();
                beginGroup();
                return true;
            }
            return false;
        }

        private boolean takesPerson(int bit) {
            // A mask is less than a bit exactly if all of its bits stand below that bit.
            if ((isBehindDash ? rights : lefts) >= bit) {
                return false;
            }
            if (isBehindDash) {
                rights |= bit;
            } else {
                lefts |= bit;
            }
            return true;
        }
    }

    /** A matching of the possible open wishes; who has no partner has the partner NONE. */
    private static final class Matching {
        private final int[] wished = new int[PEOPLE];
        private final int[] ofLeft = new int[PEOPLE];
        private final int[] ofRight = new int[PEOPLE];
        // For each right person that the latest search has seen, the left person it was seen from.
        private final int[] seenFrom = new int[PEOPLE];
        private int reachedLefts;

        int partnerOf(boolean isLeft, int person) {
            return isLeft ? ofLeft[person] : ofRight[person];
        }

        int size() {
            int size = 0;
            for (int left = 0; left < PEOPLE; left++) {
                size += asNumber(ofLeft[left] != NONE);
            }
            return size;
        }

        void takeGreatest(Clans clans) {
            Arrays.fill(wished, 0);
            Arrays.fill(ofLeft, NONE);
            Arrays.fill(ofRight, NONE);
            for (int left = 0; left < PEOPLE; left++) {
                for (int right = 0; right < PEOPLE; right++) {
                    if (clans.isPossible(left, right)) {
                        wished[left] |= 1 << right;
                    }
                }
            }
            int pairs = 0;
            while (pairs < PEOPLE && growsByOne(0, EVERYONE)) {
                pairs++;
            }
        }

        /** Takes the first one of all greatest matchings: each left person in turn gets its least partner. */
        void takeFirst(Clans clans) {
            takeGreatest(clans);
            int unsettled = EVERYONE;
            for (int left = 0; left < PEOPLE; left++) {
                boolean isSettled = false;
                for (int right = 0; right < PEOPLE && right != ofLeft[left] && !isSettled; right++) {
                    isSettled = hasBit(wished[left] & unsettled, right) && canTake(left, right, unsettled);
                }
                if (isPerson(ofLeft[left])) {
                    unsettled &= ~(1 << ofLeft[left]);
                }
            }
        }

        /** Needs a greatest matching. A left person may be left out if a path of exchanges from one that is leads to it. */
        int leftsWhoMayBeLeftOut() {
            findFreeRight(0, EVERYONE);
            int lefts = 0;
            for (int left = 0; left < PEOPLE; left++) {
                if (hasBit(reachedLefts, left) && wished[left] != 0) {
                    lefts |= 1 << left;
                }
            }
            return lefts;
        }

        /** Pairs the two if the matching stays a greatest one by exchanges among later left people. */
        private boolean canTake(int left, int right, int unsettled) {
            int rightBefore = ofLeft[left];
            int leftBefore = ofRight[right];
            if (isPerson(rightBefore)) {
                ofRight[rightBefore] = NONE;
            }
            if (isPerson(leftBefore)) {
                ofLeft[leftBefore] = NONE;
            }
            join(left, right);
            if (!isPerson(rightBefore) || !isPerson(leftBefore)) {
                return true;
            }
            if (growsByOne(left + 1, unsettled & ~(1 << right))) {
                return true;
            }
            join(left, rightBefore);
            join(leftBefore, right);
            return false;
        }

        private void join(int left, int right) {
            ofLeft[left] = right;
            ofRight[right] = left;
        }

        /** Adds a pair, by exchanges among these right people and the left ones from firstLeft on, if it can be. */
        private boolean growsByOne(int firstLeft, int rights) {
            int right = findFreeRight(firstLeft, rights);
            if (right == NONE) {
                return false;
            }
            for (int steps = 0; steps < PEOPLE && isPerson(right); steps++) {
                int left = seenFrom[right];
                if (!isPerson(left)) {
                    return false;
                }
                int rightBefore = ofLeft[left];
                join(left, right);
                right = rightBefore;
            }
            return true;
        }

        /** Goes from the left people without partner over wishes to right people, and over their pairs back. */
        private int findFreeRight(int firstLeft, int rights) {
            int waiting = leftsWithoutPartner(firstLeft);
            int unseen = rights;
            reachedLefts = waiting;
            for (int sweep = 0; sweep < PEOPLE && waiting != 0; sweep++) {
                for (int left = firstLeft; left < PEOPLE; left++) {
                    if (!hasBit(waiting, left)) {
                        continue;
                    }
                    waiting &= ~(1 << left);
                    for (int right = 0; right < PEOPLE; right++) {
                        if (!hasBit(wished[left] & unseen, right)) {
                            continue;
                        }
                        unseen &= ~(1 << right);
                        seenFrom[right] = left;
                        if (ofRight[right] == NONE) {
                            return right;
                        }
                        waiting |= 1 << ofRight[right];
                        reachedLefts |= 1 << ofRight[right];
                    }
                }
            }
            return NONE;
        }

        private int leftsWithoutPartner(int firstLeft) {
            int lefts = 0;
            for (int left = firstLeft; left < PEOPLE; left++) {
                if (ofLeft[left] == NONE) {
                    lefts |= 1 << left;
                }
            }
            return lefts;
        }
    }

    /** The plan: each possible open wish has a number, every other pair has NONE. */
    private static final class Plan {
        private final int[] numbers = new int[PAIRS];

        int numberOf(int left, int right) {
            return numbers[PEOPLE * left + right];
        }

        void make(Clans clans) {
            Arrays.fill(numbers, NONE);
            for (int left = 0; left < PEOPLE; left++) {
                for (int right = 0; right < PEOPLE; right++) {
                    if (clans.isPossible(left, right)) {
                        addWish(left, right);
                    }
                }
            }
        }

        private void addWish(int left, int right) {
            int ofLeft = leastNumberWithout(true, left);
            int ofRight = leastNumberWithout(false, right);
            if (leftWith(right, ofLeft) != NONE) {
                exchangeAlongPath(right, ofLeft, ofRight);
            }
            setNumber(left, right, ofLeft);
        }

        private void setNumber(int left, int right, int number) {
            numbers[PEOPLE * left + right] = number;
        }

        private int leastNumberWithout(boolean isLeft, int person) {
            int taken = 0;
            for (int other = 0; other < PEOPLE; other++) {
                int number = isLeft ? numberOf(person, other) : numberOf(other, person);
                if (number != NONE) {
                    taken |= 1 << number;
                }
            }
            int least = 0;
            while (least < PEOPLE && hasBit(taken, least)) {
                least++;
            }
            return least;
        }

        /** The right person of the wish of this left person that has this number, or NONE. */
        private int rightWith(int left, int number) {
            for (int right = 0; right < PEOPLE; right++) {
                if (numberOf(left, right) == number) {
                    return right;
                }
            }
            return NONE;
        }

        private int leftWith(int right, int number) {
            for (int left = 0; left < PEOPLE; left++) {
                if (numberOf(left, right) == number) {
                    return left;
                }
            }
            return NONE;
        }

        /** Each wish is looked up before the one ahead of it on the path changes, as both then bear the same number. */
        private void exchangeAlongPath(int firstRight, int first, int second) {
            int right = firstRight;
            int left = leftWith(right, first);
            for (int steps = 0; steps < PEOPLE && isPerson(left); steps++) {
                int nextRight = rightWith(left, second);
                setNumber(left, right, second);
                if (!isPerson(nextRight)) {
                    return;
                }
                int nextLeft = leftWith(nextRight, first);
                setNumber(left, nextRight, first);
                right = nextRight;
                left = nextLeft;
            }
        }
    }
}
