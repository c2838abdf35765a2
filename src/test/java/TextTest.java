/** Promises 9 to 12. */
public final class TextTest {
    private static final Checks CHECKS = new Checks();

    public static void main(String[] args) {
        appends();
        clears();
        faults();
        reads();
        readsWithFault();
        fullText();
        CHECKS.end();
    }

    private static void appends() {
        FenceHandshakes x = new FenceHandshakes();
        CHECKS.due("append 31", x.append(31), -2);
        CHECKS.due("append 127", x.append(127), -2);
        CHECKS.due("append -1", x.append(-1), -2);
        CHECKS.due("append 65536 + 48", x.append(65536 + 48), -2);
        CHECKS.due("append the least", x.append(Integer.MIN_VALUE), -2);
        CHECKS.due("append 32", x.append(32), 1);
        CHECKS.due("append 126", x.append(126), 2);
        for (int n = 3; n <= 80; n++) {
            CHECKS.due("append the character " + n, x.append('0'), n);
        }
        CHECKS.due("append to the full text", x.append('0'), -3);
        CHECKS.due("append a wrong one to the full text", x.append(31), -2);
        CHECKS.due("length", x.count(9), 80);
        CHECKS.due("no action", x.count(8), 0);
    }

    private static void clears() {
        FenceHandshakes x = Setups.withText("01-2");
        CHECKS.due("clear", x.clearText(), 4);
        CHECKS.due("length", x.count(9), 0);
        CHECKS.due("clear again", x.clearText(), 0);
        CHECKS.due("fault of the empty text", x.fault(), 0);
        CHECKS.due("append anew", x.append('7'), 1);
        CHECKS.due("fault", x.fault(), 1);
        CHECKS.due("no action", x.count(8), 0);
    }

    private static void faultOf(String text, int want) {
        FenceHandshakes x = Setups.withText(text);
        CHECKS.due("fault of '" + text + "'", x.fault(), want);
        CHECKS.due("read of '" + text + "'", x.read() < 0 ? x.read() : -5, want == -5 ? -5 : -100 - want);
    }

    private static void faults() {
        String[] lists = {"0-0", "7-7", "01234567-01234567", "07-3,1-2", "0-0,0-0,0-0", "246-1357,7-0"};
        for (String list : lists) {
            faultOf(list, -5);
        }
        String[] begun = {"", "0", "7", "01234567", "0-", "7-", "0-0,", "0-01234567,", "0-0,1", "0-0,1-"};
        for (String text : begun) {
            faultOf(text, text.length());
        }
        // Each of these has its fault at the last character, and what follows does not matter.
        String[] wrong = {"-", ",", "8", "9", " ", "a", "/", "~", "00", "10", "76", "0,", "0--", "0-,", "0-8", "0-00",
            "0-10", "0-0-", "0-0,-", "0-0,,", "0-0,8", "0-0,1,", "0-0,11", "0-0 ", "0-7/", "017-017,017-0177"};
        for (String text : wrong) {
            faultOf(text, text.length() - 1);
            faultOf(text + "0-0", text.length() - 1);
            faultOf(text + ",", text.length() - 1);
        }
    }

    private static void reads() {
        FenceHandshakes x = Setups.withText("02-13,4-4567,0-1");
        x.wish(2, 3);
        CHECKS.due("read", x.read(), 7);
        CHECKS.due("open", x.count(0), 8);
        int[][] open = {{0, 1}, {0, 3}, {2, 1}, {2, 3}, {4, 4}, {4, 5}, {4, 6}, {4, 7}};
        for (int[] p : open) {
            CHECKS.due("open " + p[0] + " " + p[1], x.pair(p[0], p[1], 0), 1);
        }
        CHECKS.due("length of the text", x.count(9), 16);
        CHECKS.due("history", x.count(8), 2);
        CHECKS.due("read again", x.read(), 0);
        CHECKS.due("an action though nothing changes", x.count(8), 3);
        x.withdraw(0, 3);
        CHECKS.due("read once more", x.read(), 1);
        CHECKS.due("undo the reading", x.undo(), 4);
        CHECKS.due("0 3 is not open", x.pair(0, 3, 0), 0);
        CHECKS.due("the text stays", x.fault(), -5);
    }

    private static void readsWithFault() {
        FenceHandshakes x = Setups.withText("0-0,1-11");
        CHECKS.due("read", x.read(), -107);
        CHECKS.due("nothing is added", x.count(0), 0);
        CHECKS.due("no action", x.count(8), 0);
        x.clearText();
        CHECKS.due("read the empty text", x.read(), -100);
        Setups.type(x, "5-6");
        CHECKS.due("read the next text", x.read(), 1);
        CHECKS.due("only its pair", x.pair(5, 6, 0), 1);
        CHECKS.due("open", x.count(0), 1);
    }

    private static void fullText() {
        StringBuilder list = new StringBuilder("01-01234");
        for (int i = 0; i < 18; i++) {
            list.append(",").append(i % 8).append("-").append(7 - i % 8);
        }
        FenceHandshakes x = Setups.withText(list.toString());
        CHECKS.due("length", x.count(9), 80);
        CHECKS.due("fault of the full list", x.fault(), -5);
        CHECKS.due("read it", x.read(), 18);
        FenceHandshakes y = Setups.withText(list.substring(0, 78) + "1-");
        CHECKS.due("fault at the end", y.fault(), 78);
        FenceHandshakes z = Setups.withText(list.substring(0, 79) + "-");
        CHECKS.due("fault at the last character", z.fault(), 79);
        FenceHandshakes w = Setups.withText(list.substring(0, 78) + "23");
        CHECKS.due("not complete at the end of the room", w.fault(), 80);
        CHECKS.due("read what is not complete", w.read(), -180);
    }
}
