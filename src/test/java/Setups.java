/** States that several tests begin with, and short ways to come to them. */
final class Setups {
    static final String ALL_PAIRS = "01234567-01234567";
    /** A list of 80 characters: as long as the text can be. */
    static final String FULL_LIST = "01-0" + ",0-0".repeat(19);

    private Setups() {
    }

    static FenceHandshakes allLinked() {
        FenceHandshakes x = new FenceHandshakes();
        for (int l = 0; l < 4; l++) {
            for (int r = 0; r < 4; r++) {
                x.link(l, r, true);
            }
        }
        return x;
    }

    /** Pairs are written with two digits: the left person and the right one. */
    static void addWishes(FenceHandshakes x, int... pairs) {
        for (int p : pairs) {
            x.wish(p / 10, p % 10);
        }
    }

    static FenceHandshakes wishing(int... pairs) {
        FenceHandshakes x = allLinked();
        addWishes(x, pairs);
        return x;
    }

    static FenceHandshakes wishingAll() {
        FenceHandshakes x = allLinked();
        type(x, ALL_PAIRS);
        x.read();
        return x;
    }

    static FenceHandshakes withText(String text) {
        FenceHandshakes x = new FenceHandshakes();
        type(x, text);
        return x;
    }

    static void type(FenceHandshakes x, String text) {
        for (int i = 0; i < text.length(); i++) {
            x.append(text.charAt(i));
        }
    }

    static void makeRounds(FenceHandshakes x, int rounds) {
        for (int n = 0; n < rounds; n++) {
            x.round();
        }
    }

    /** Every pair has a feud of this many rounds. */
    static FenceHandshakes quarrelling(int rounds) {
        FenceHandshakes x = new FenceHandshakes();
        for (int pair = 0; pair < 64; pair++) {
            x.quarrel(pair / 8, pair % 8, rounds);
        }
        return x;
    }

    /**
     * Nothing is as at first: gates, links, feuds, wishes, a round, tallies, a text that is a list, a snapshot that is
     * not the state, and a full history of five states that all differ.
     */
    static FenceHandshakes eventful() {
        FenceHandshakes x = new FenceHandshakes();
        x.link(0, 3, true);
        x.link(1, 1, false);
        x.link(3, 2, true);
        x.move(true, 7, 0);
        x.move(false, 0, 2);
        x.quarrel(2, 4, 50);
        x.quarrel(6, 6, 2);
        addWishes(x, 01, 11, 44, 45, 66, 27);
        type(x, "03-15,6-27");
        x.round();
        x.save();
        x.wish(7, 7);
        x.quarrel(0, 1, 3);
        x.link(2, 0, true);
        x.move(true, 0, 3);
        x.withdraw(4, 5);
        return x;
    }

    /** As above, with the text at its full length. */
    static FenceHandshakes eventfulWithFullText() {
        FenceHandshakes x = eventful();
        x.clearText();
        type(x, FULL_LIST);
        return x;
    }

    /** As above, with a text at its full length that is no list. */
    static FenceHandshakes eventfulWithFullFault() {
        FenceHandshakes x = eventful();
        x.clearText();
        type(x, "0-0,".repeat(20));
        return x;
    }
}
