/** Promises 1 to 25 in long runs of mixed calls: every answer is compared with the model's. */
public final class ModelTest {
    private static final Checks CHECKS = new Checks();
    private static final int RUNS = 240;
    private static final int CALLS = 512;

    private long seed;
    private FenceHandshakes made;
    private Model model;
    private int manner;
    private String run;

    public static void main(String[] args) {
        ModelTest test = new ModelTest();
        for (int run = 0; run < RUNS && CHECKS.isAllRight(); run++) {
            test.runOf(run);
        }
        CHECKS.end();
    }

    /** A number from 0 to size - 1; the same ones in every run of this test. */
    private int any(int size) {
        seed = seed * 6364136223846793005L + 1442695040888963407L;
        return (int) ((seed >>> 33) % size);
    }

    private int near(int size) {
        return any(40) == 0 ? (any(2) == 0 ? -1 : size) : any(size);
    }

    private void runOf(int number) {
        seed = 77 + number;
        manner = number % 6;
        run = "run " + number + ", ";
        made = new FenceHandshakes();
        model = new Model();
        int used = 0;
        if (manner >= 2) {
            for (int pair = 0; pair < 16; pair++) {
                if (manner == 2 || any(3) != 0) {
                    used++;
                    made.link(pair / 4, pair % 4, true);
                    model.link(pair / 4, pair % 4, true);
                }
            }
        }
        for (int call = used; call < CALLS && CHECKS.isAllRight(); call++) {
            if (any(3) == 0) {
                query(call);
            } else {
                change(call);
            }
        }
    }

    private void due(int call, String what, int got, int want) {
        CHECKS.due(run + "call " + call + ": " + what, got, want);
    }

    private void change(int call) {
        int l = near(8);
        int r = near(8);
        int kind = any(40);
        if (kind < (manner == 4 ? 22 : 12)) {
            due(call, "wish(" + l + ", " + r + ")", made.wish(l, r), model.wish(l, r));
        } else if (kind < 24) {
            text(call);
        } else if (kind < 26) {
            due(call, "withdraw(" + l + ", " + r + ")", made.withdraw(l, r), model.withdraw(l, r));
        } else if (kind < 28) {
            int rounds = any(2) == 0 ? near(4) : near(51);
            due(call, "quarrel(" + l + ", " + r + ", " + rounds + ")",
                made.quarrel(l, r, rounds), model.quarrel(l, r, rounds));
        } else if (kind < 29) {
            due(call, "reconcile(" + l + ", " + r + ")", made.reconcile(l, r), model.reconcile(l, r));
        } else if (kind < 31) {
            int g = near(4);
            int h = near(4);
            boolean is = any(manner == 3 ? 2 : 4) != 0;
            due(call, "link(" + g + ", " + h + ", " + is + ")", made.link(g, h, is), model.link(g, h, is));
        } else if (kind < 33) {
            int g = near(4);
            boolean isLeft = any(2) == 0;
            due(call, "move(" + isLeft + ", " + l + ", " + g + ")", made.move(isLeft, l, g), model.move(isLeft, l, g));
        } else if (kind < 35) {
            due(call, "round()", made.round(), model.round());
        } else if (kind < 38) {
            due(call, "undo()", made.undo(), model.undo());
        } else if (kind < 39) {
            due(call, "save()", made.save(), model.save());
        } else {
            due(call, "restore()", made.restore(), model.restore());
        }
    }

    private void text(int call) {
        int kind = any(60);
        if (kind == 0) {
            due(call, "clearText()", made.clearText(), model.clearText());
        } else if (kind < 8) {
            due(call, "read()", made.read(), model.read());
        } else if (kind < 9) {
            int c = any(200) - 20;
            due(call, "append(" + c + ")", made.append(c), model.append(c));
        } else {
            int c = nextOfAList();
            due(call, "append(" + c + ")", made.append(c), model.append(c));
        }
    }

    /** Mostly a character that goes on with a list, so that long lists come to be. */
    private int nextOfAList() {
        for (int tries = 0; tries < 20; tries++) {
            int c = "01234567-,".charAt(any(10));
            if (Model.beginsAList(model.text() + (char) c)) {
                return c;
            }
        }
        return '0' + any(8);
    }

    private void query(int call) {
        int l = near(8);
        int r = near(8);
        boolean isLeft = any(2) == 0;
        int kind = any(16);
        if (kind == 0) {
            due(call, "hindered()", made.hindered(), model.hindered());
        } else if (kind < 3) {
            due(call, "partner(" + isLeft + ", " + l + ")", made.partner(isLeft, l), model.partner(isLeft, l));
        } else if (kind < 6) {
            due(call, "planned(" + l + ", " + r + ")", made.planned(l, r), model.planned(l, r));
        } else if (kind == 6) {
            due(call, "doneIn()", made.doneIn(), model.doneIn());
        } else if (kind == 7) {
            due(call, "bestLink()", made.bestLink(), model.bestLink());
        } else if (kind == 8) {
            CHECKS.dueDouble(run + "call " + call + ": mean()", made.mean(), model.mean());
        } else if (kind == 9) {
            due(call, "isLinked(" + l / 2 + ", " + r / 2 + ")", made.isLinked(l / 2, r / 2), model.isLinked(l / 2, r / 2));
        } else if (kind == 10) {
            due(call, "fault()", made.fault(), model.fault());
        } else if (kind < 13) {
            int what = near(10);
            due(call, "count(" + what + ")", made.count(what), model.count(what));
        } else if (kind == 13) {
            int what = near(6);
            due(call, "person(" + isLeft + ", " + l + ", " + what + ")",
                made.person(isLeft, l, what), model.person(isLeft, l, what));
        } else {
            int what = near(4);
            due(call, "pair(" + l + ", " + r + ", " + what + ")", made.pair(l, r, what), model.pair(l, r, what));
        }
    }
}
