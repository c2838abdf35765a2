/** Terms, 'Text', and promises 9 to 12: a test for each sentence that names a boundary case. */
public final class TextEdgesTest {
    private static final String TEXT = "Text";
    private static final Checks CHECKS = new Checks();

    public static void main(String[] args) {
        text();
        append("Promise 9");
        clearText("Promise 10");
        fault("Promise 11");
        read("Promise 12");
        CHECKS.end();
    }

    private static void dueFault(String text, int want) {
        CHECKS.due("fault of '" + text + "'", Setups.withText(text).fault(), want);
    }

    private static void dueFaults(int want, String... texts) {
        for (String text : texts) {
            dueFault(text, want);
        }
    }

    private static void dueNoFault(String... texts) {
        dueFaults(-5, texts);
    }

    /** These texts begin lists, but are none themselves. */
    private static void dueFaultAtTheEnd(String... texts) {
        for (String text : texts) {
            dueFault(text, text.length());
        }
    }

    private static void dueFaultAtTheLastCharacter(String... texts) {
        for (String text : texts) {
            dueFault(text, text.length() - 1);
        }
    }

    private static void text() {
        CHECKS.sentence(TEXT, "There is a text of at most 80 characters", TextEdgesTest::atMost80Characters);
        CHECKS.sentence(TEXT, "(empty at first)", TextEdgesTest::emptyAtFirst);
        CHECKS.sentence(TEXT, "list = group { \",\" group }", TextEdgesTest::oneGroupOrMore);
        CHECKS.sentence(TEXT, "group = people \"-\" people", TextEdgesTest::peopleOnBothSides);
        CHECKS.sentence(TEXT, "people = person { person }", TextEdgesTest::oneToEightPeople);
        CHECKS.sentence(TEXT, "A person is a digit from 0 to 7", TextEdgesTest::digitsFrom0To7);
        CHECKS.sentence(TEXT, "in \"people\" the digits ascend", TextEdgesTest::digitsAscend);
        CHECKS.sentence(TEXT, "in \"people\" the digits ascend", TextEdgesTest::digitsBeginAnewInEachPeople);
        CHECKS.sentence(TEXT, "A group stands for all pairs of a left person (before \"-\") and a right person "
            + "(behind it).", TextEdgesTest::pairsOfAGroup);
        CHECKS.sentence(TEXT, "The fault of the text is the index of the first character such that no list, of any "
            + "length, begins with the characters up to and including it.", TextEdgesTest::firstCharacterOfSeveral);
        CHECKS.sentence(TEXT, "the index of the first character", TextEdgesTest::leastAndGreatestIndex);
        CHECKS.sentence(TEXT, "no list, of any length", TextEdgesTest::listsLongerThanTheText);
        CHECKS.sentence(TEXT, "If there is no such character, but the text is not a complete list", () ->
            dueFaultAtTheEnd("0", "7", "01234567", "0-", "01234567-", "0-0,", "0-0,0", "0-0,0-", "0-0,0-0,"));
        CHECKS.sentence(TEXT, "(as the empty text), the fault is the length of the text", TextEdgesTest::emptyText);
    }

    private static void atMost80Characters() {
        FenceHandshakes x = Setups.withText(Setups.FULL_LIST);
        CHECKS.due("all 80 are there", x.count(9), 80);
        CHECKS.due("and are a list", x.fault(), -5);
        CHECKS.due("an 81st", x.append('1'), -3);
        CHECKS.due("still 80", x.count(9), 80);
        CHECKS.due("still a list", x.fault(), -5);
    }

    private static void emptyAtFirst() {
        FenceHandshakes x = new FenceHandshakes();
        CHECKS.due("length", x.count(9), 0);
        CHECKS.due("cleared", x.clearText(), 0);
        CHECKS.due("the first character", x.append('0'), 1);
    }

    private static void oneGroupOrMore() {
        dueNoFault("0-0", "0-0,0-0", "0-0,1-1,2-2,3-3", Setups.FULL_LIST);
        dueFaultAtTheLastCharacter(",", "0-0,,", "0-0,1-1,,", "0-0;", "0-0 ", "0-0.");
        dueFaultAtTheEnd("0-0,", "0-0,1-1,");
    }

    private static void peopleOnBothSides() {
        dueNoFault("0-7", "7-0");
        dueFaultAtTheLastCharacter("-", "0--", "0-,", "0,", "01,", "0-0-", "0-01-", "0-0,-", "0-0,1,", "0-0,1-,", "0_",
            "0+", "0.");
        dueFaultAtTheEnd("0", "0-", "0-0,1", "0-0,1-");
    }

    private static void oneToEightPeople() {
        dueNoFault("0-0", "01234567-0", "0-01234567", Setups.ALL_PAIRS, "0-0," + Setups.ALL_PAIRS);
        dueFaultAtTheLastCharacter("012345677", "012345670", "0-012345677", "0-012345670");
        dueFaultAtTheEnd("01234567", "01234567-");
    }

    private static void digitsFrom0To7() {
        for (char c = ' '; c <= '~'; c++) {
            boolean isPerson = c >= '0' && c <= '7';
            dueFault(String.valueOf(c), isPerson ? 1 : 0);
            dueFault("0-" + c, isPerson ? -5 : 2);
            dueFault("0-0," + c, isPerson ? 5 : 4);
        }
    }

    private static void digitsAscend() {
        for (int first = 0; first < 8; first++) {
            for (int second = 0; second < 8; second++) {
                String people = "" + first + second;
                dueFault(people + "-0", second > first ? -5 : 1);
                dueFault("0-" + people, second > first ? -5 : 3);
            }
        }
        // It is the one ahead that counts, and not the first one or any of them.
        dueFaultAtTheLastCharacter("021", "011", "0676", "0677", "0-021", "0-131", "0-0,132", "0-0,0-132");
        dueNoFault("067-0246", "0-1357");
    }

    private static void digitsBeginAnewInEachPeople() {
        dueNoFault("7-0", "67-01", "7-7,7-7", "67-67,01-01", "0-7,0-0", "7-0,6-0,0-0", "5-5,5-5,5-5");
    }

    private static void pairsOfAGroup() {
        FenceHandshakes x = Setups.withText("07-07");
        CHECKS.due("four pairs", x.read(), 4);
        FenceHandshakes y = Setups.withText("7-0");
        CHECKS.due("one pair", y.read(), 1);
        CHECKS.due("left 7, right 0", y.pair(7, 0, 0), 1);
        CHECKS.due("not left 0, right 7", y.pair(0, 7, 0), 0);
        FenceHandshakes z = Setups.withText("06-7,7-16");
        CHECKS.due("two of each group", z.read(), 4);
        for (int pair = 0; pair < 64; pair++) {
            boolean isMeant = pair == 7 || pair == 6 * 8 + 7 || pair == 7 * 8 + 1 || pair == 7 * 8 + 6;
            CHECKS.due("wish of the pair " + pair, z.pair(pair / 8, pair % 8, 0), isMeant ? 1 : 0);
        }
        FenceHandshakes all = Setups.withText(Setups.ALL_PAIRS);
        CHECKS.due("all pairs", all.read(), 64);
        for (int pair = 0; pair < 64; pair++) {
            CHECKS.due("each, " + pair, all.pair(pair / 8, pair % 8, 0), 1);
        }
    }

    private static void firstCharacterOfSeveral() {
        dueFaults(0, "8", "88", "8-8", "-0", "--", ",0-0", " 0-0");
        dueFaults(1, "00", "000", "00-00", "10-0", "0 -0", "0,0-0");
        dueFaults(2, "0-8,9", "0--0", "0-,0-", "010");
        dueFaults(3, "0-00", "0-0-0", "0-10,8", "0-0 ,");
        dueFaults(4, "0-0,,0-0", "0-0,8-8", "0-01 2");
    }

    private static void leastAndGreatestIndex() {
        for (int at = 0; at < 80; at++) {
            dueFault(Setups.FULL_LIST.substring(0, at) + "~".repeat(80 - at), at);
            dueFault(Setups.FULL_LIST.substring(0, at) + "8", at);
        }
    }

    private static void listsLongerThanTheText() {
        // Full texts with which only longer lists begin, and such with which none does.
        dueFault("0-0,".repeat(20), 80);
        dueFault(Setups.FULL_LIST.substring(0, 79) + "-", 79);
        dueFault(Setups.FULL_LIST.substring(0, 79) + ",", 79);
        dueFault("0-0,".repeat(19) + "0-01", -5);
        dueFault("0-0,".repeat(19) + "01-0", -5);
        dueFault("0-0,".repeat(19) + "012-", 80);
        dueFault("0-0,".repeat(19) + "0123", 80);
    }

    private static void emptyText() {
        FenceHandshakes x = new FenceHandshakes();
        CHECKS.due("of a new object", x.fault(), 0);
        Setups.type(x, "0-0");
        CHECKS.due("of a list", x.fault(), -5);
        x.clearText();
        CHECKS.due("when it is cleared", x.fault(), 0);
    }

    private static void append(String place) {
        CHECKS.sentence(place, "character: 32 to 126", () ->
            CHECKS.range("append", 32, 126, -2, v -> new FenceHandshakes().append(v), v -> 1));
        CHECKS.sentence(place, "Appends a character to the text.", TextEdgesTest::atTheEndOfTheText);
        CHECKS.sentence(place, "Returns the length of the text", TextEdgesTest::from1To80);
        CHECKS.sentence(place, "BAD_VALUE if character is out of range", TextEdgesTest::wrongCharactersAreLeftOut);
        CHECKS.sentence(place, "TOO_MANY if the text has 80 characters", TextEdgesTest::noRoomForAnother);
        CHECKS.sentence(place, "TOO_MANY if the text has 80 characters", TextEdgesTest::roomWith79);
    }

    private static void atTheEndOfTheText() {
        FenceHandshakes x = new FenceHandshakes();
        int[] due = {1, 2, -5, 4, 5, 6, -5, -5};
        String list = "3-5,6-07";
        for (int i = 0; i < list.length(); i++) {
            x.append(list.charAt(i));
            CHECKS.due("fault with " + (i + 1) + " characters", x.fault(), due[i]);
        }
        CHECKS.due("read", x.read(), 3);
    }

    private static void from1To80() {
        FenceHandshakes x = new FenceHandshakes();
        for (int length = 1; length <= 80; length++) {
            CHECKS.due("append", x.append(length % 2 == 0 ? 32 : 126), length);
            CHECKS.due("length", x.count(9), length);
        }
    }

    private static void wrongCharactersAreLeftOut() {
        int[] wrong = {31, 127, 0, -1, 10, 128, 255, 256 + '0', 65536 + '0', -208, Integer.MIN_VALUE + '0'};
        for (int c : wrong) {
            FenceHandshakes x = Setups.withText("0-");
            CHECKS.due("append " + c, x.append(c), -2);
            CHECKS.due("length", x.count(9), 2);
            CHECKS.due("the next one", x.append('0'), 3);
            CHECKS.due("fault", x.fault(), -5);
        }
    }

    private static void noRoomForAnother() {
        FenceHandshakes x = Setups.withText(Setups.FULL_LIST);
        for (int n = 0; n < 100; n++) {
            CHECKS.due("append", x.append(32 + n % 95), -3);
        }
        CHECKS.due("length", x.count(9), 80);
        CHECKS.due("fault", x.fault(), -5);
        CHECKS.due("clear", x.clearText(), 80);
        CHECKS.due("room again", x.append('~'), 1);
    }

    private static void roomWith79() {
        FenceHandshakes x = Setups.withText(Setups.FULL_LIST.substring(0, 79));
        CHECKS.due("the fault of 79", x.fault(), 79);
        CHECKS.due("the 80th", x.append('7'), 80);
        CHECKS.due("the 81st", x.append('7'), -3);
        CHECKS.due("a list", x.fault(), -5);
        CHECKS.due("read", x.read(), 3);
        CHECKS.due("the pair with the 80th character", x.pair(0, 7, 0), 1);
    }

    private static void clearText(String place) {
        CHECKS.sentence(place, "Empties the text.", TextEdgesTest::cleared);
        CHECKS.sentence(place, "Returns the length that the text had.", TextEdgesTest::lengthsFrom0To80);
    }

    private static void cleared() {
        FenceHandshakes x = Setups.withText(Setups.FULL_LIST);
        x.clearText();
        CHECKS.due("length", x.count(9), 0);
        CHECKS.due("fault", x.fault(), 0);
        CHECKS.due("read", x.read(), -100);
        Setups.type(x, "7-7");
        CHECKS.due("only what comes then", x.read(), 1);
        CHECKS.due("the pair", x.pair(7, 7, 0), 1);
        FenceHandshakes looked = Setups.withText("0-0,1-1,2-2,");
        CHECKS.due("a fault behind three groups", looked.read(), -112);
        looked.clearText();
        Setups.type(looked, "3-3");
        CHECKS.due("nothing is left of the groups", looked.read(), 1);
        FenceHandshakes asked = Setups.withText(Setups.FULL_LIST);
        CHECKS.due("no fault", asked.fault(), -5);
        asked.clearText();
        Setups.type(asked, "3-3");
        CHECKS.due("nothing is left of the list", asked.read(), 1);
    }

    private static void lengthsFrom0To80() {
        for (int length = 0; length <= 80; length++) {
            FenceHandshakes x = Setups.withText("~".repeat(length));
            CHECKS.due("clear a text of " + length, x.clearText(), length);
            CHECKS.due("clear it again", x.clearText(), 0);
        }
    }

    private static void fault(String place) {
        CHECKS.sentence(place, "Returns the fault", TextEdgesTest::everyFault);
        CHECKS.sentence(place, "NONE if the text is a complete list", TextEdgesTest::shortestAndLongestList);
    }

    private static void everyFault() {
        // Up to each length the text only begins a list, or is one.
        for (int length = 0; length <= 80; length++) {
            int rest = length % 4;
            boolean isList = length == 4 || length > 4 && rest == 0;
            dueFault(Setups.FULL_LIST.substring(0, length), isList ? -5 : length);
        }
    }

    private static void shortestAndLongestList() {
        dueNoFault("0-0", "7-7", Setups.FULL_LIST, "0-0,".repeat(19) + "6-67");
        FenceHandshakes x = Setups.withText("0-0");
        CHECKS.due("once", x.fault(), -5);
        CHECKS.due("twice, as nothing is changed", x.fault(), -5);
        x.read();
        CHECKS.due("after it is read", x.fault(), -5);
    }

    private static void read(String place) {
        CHECKS.sentence(place, "Adds wishes for all pairs of the list in the text", TextEdgesTest::allPairsOfTheList);
        CHECKS.sentence(place, "pairs with an open wish are skipped", TextEdgesTest::openOnesAreSkipped);
        CHECKS.sentence(place, "The text does not change.", TextEdgesTest::readAgain);
        CHECKS.sentence(place, "Returns the number of wishes that are added", TextEdgesTest::from0To64Added);
        CHECKS.sentence(place, "-100 minus the fault (an error code) if the text is not a complete list",
            TextEdgesTest::codesOfFaults);
        CHECKS.sentence(place, "(an error code)", TextEdgesTest::nothingAddedBeforeTheFault);
    }

    private static void allPairsOfTheList() {
        FenceHandshakes x = Setups.withText("0-0,7-7,0-7,7-0");
        CHECKS.due("the corners", x.read(), 4);
        FenceHandshakes twice = Setups.withText("3-45,3-56,3-4");
        CHECKS.due("pairs that stand twice count once", twice.read(), 3);
        FenceHandshakes full = Setups.withText("0-0,".repeat(19) + "7-67");
        CHECKS.due("up to the end of the full text", full.read(), 3);
        CHECKS.due("the last pair", full.pair(7, 7, 0), 1);
        FenceHandshakes impossible = new FenceHandshakes();
        impossible.quarrel(0, 0, 9);
        Setups.type(impossible, "0-07");
        CHECKS.due("impossible ones too", impossible.read(), 2);
    }

    private static void openOnesAreSkipped() {
        FenceHandshakes x = Setups.withText("07-07");
        Setups.addWishes(x, 00, 77, 33);
        CHECKS.due("two of four are added", x.read(), 2);
        CHECKS.due("open", x.count(0), 5);
        CHECKS.due("none of four", x.read(), 0);
        CHECKS.due("open as before", x.count(0), 5);
        x.withdraw(7, 0);
        CHECKS.due("the withdrawn one", x.read(), 1);
        x.round();
        CHECKS.due("those that were fulfilled", x.read(), 2);
    }

    private static void readAgain() {
        FenceHandshakes x = Setups.withText("0-1");
        for (int n = 1; n <= 3; n++) {
            CHECKS.due("read", x.read(), 1);
            CHECKS.due("length", x.count(9), 3);
            CHECKS.due("fault", x.fault(), -5);
            x.round();
        }
        CHECKS.due("handshakes", x.pair(0, 1, 2), 3);
        Setups.type(x, "2");
        CHECKS.due("a character more", x.read(), 2);
    }

    private static void from0To64Added() {
        for (int open = 0; open <= 64; open++) {
            FenceHandshakes x = Setups.withText(Setups.ALL_PAIRS);
            for (int pair = 0; pair < open; pair++) {
                x.wish(pair / 8, pair % 8);
            }
            CHECKS.due("read beside " + open, x.read(), 64 - open);
            CHECKS.due("open", x.count(0), 64);
        }
    }

    private static void codesOfFaults() {
        CHECKS.due("the empty text", new FenceHandshakes().read(), -100);
        CHECKS.due("a wrong first character", Setups.withText("8").read(), -100);
        CHECKS.due("the full text that only begins a list", Setups.withText("0-0,".repeat(20)).read(), -180);
        for (int at = 0; at < 80; at++) {
            FenceHandshakes x = Setups.withText(Setups.FULL_LIST.substring(0, at) + " ");
            CHECKS.due("a wrong character at " + at, x.read(), -100 - at);
        }
    }

    private static void nothingAddedBeforeTheFault() {
        String[] texts = {"0-0,1-1,2-2,", "0-0,1-1,2-2-", "0-0,1-1,2", "0-0,1-1,2-", "0-0,1-11", "0-0,8"};
        for (String text : texts) {
            FenceHandshakes x = Setups.withText(text);
            CHECKS.dueTrue("code of '" + text + "'", x.read() < -100);
            CHECKS.due("open after '" + text + "'", x.count(0), 0);
            CHECKS.due("history after '" + text + "'", x.count(8), 0);
        }
    }
}
