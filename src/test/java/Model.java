import java.util.ArrayDeque;
import java.util.ArrayList;
import java.util.Arrays;
import java.util.Deque;
import java.util.List;
import java.util.TreeSet;

/** The document once more, by other means and without regard to speed: what ModelTest compares with. */
final class Model {
    private static final class State {
        int[] gatesOfLeft = {0, 0, 1, 1, 2, 2, 3, 3};
        int[] gatesOfRight = {0, 0, 1, 1, 2, 2, 3, 3};
        boolean[][] linked = new boolean[4][4];
        boolean[][] open = new boolean[8][8];
        int[][] feud = new int[8][8];
        int[][] shaken = new int[8][8];
        int rounds;

        State() {
            for (int g = 0; g < 4; g++) {
                linked[g][g] = true;
            }
        }

        State copy() {
            State s = new State();
            s.gatesOfLeft = gatesOfLeft.clone();
            s.gatesOfRight = gatesOfRight.clone();
            for (int g = 0; g < 4; g++) {
                s.linked[g] = linked[g].clone();
            }
            for (int p = 0; p < 8; p++) {
                s.open[p] = open[p].clone();
                s.feud[p] = feud[p].clone();
                s.shaken[p] = shaken[p].clone();
            }
            s.rounds = rounds;
            return s;
        }

        boolean sameGates(int l, int r) {
            return linked[gatesOfLeft[l]][gatesOfRight[r]];
        }

        boolean meet(int l, int r) {
            return sameGates(l, r) && feud[l][r] == 0;
        }

        boolean possible(int l, int r) {
            return open[l][r] && meet(l, r);
        }

        int openOnes() {
            int n = 0;
            for (boolean[] row : open) {
                for (boolean o : row) {
                    n += o ? 1 : 0;
                }
            }
            return n;
        }
    }

    private State state = new State();
    private State snapshot;
    private final Deque<State> history = new ArrayDeque<>();
    private String text = "";

    /** most[l][used] is the size of a greatest matching of the left people from l on without the used right ones. */
    private static int[][] most(State s, int leftOut) {
        int[][] most = new int[9][256];
        for (int l = 7; l >= 0; l--) {
            for (int used = 0; used < 256; used++) {
                most[l][used] = most[l + 1][used];
                for (int r = 0; r < 8; r++) {
                    if (l != leftOut && s.possible(l, r) && (used & 1 << r) == 0) {
                        most[l][used] = Math.max(most[l][used], 1 + most[l + 1][used | 1 << r]);
                    }
                }
            }
        }
        return most;
    }

    private static int greatest(State s) {
        return most(s, -1)[0][0];
    }

    private static int[] first(State s) {
        int[][] most = most(s, -1);
        int[] partners = new int[8];
        Arrays.fill(partners, -5);
        int used = 0;
        for (int l = 0; l < 8; l++) {
            for (int r = 0; r < 8 && partners[l] == -5; r++) {
                if (s.possible(l, r) && (used & 1 << r) == 0 && 1 + most[l + 1][used | 1 << r] == most[l][used]) {
                    partners[l] = r;
                }
            }
            if (partners[l] != -5) {
                used |= 1 << partners[l];
            }
        }
        return partners;
    }

    private static int makeRound(State s) {
        int[] partners = first(s);
        int n = 0;
        for (int l = 0; l < 8; l++) {
            if (partners[l] >= 0) {
                n++;
                s.open[l][partners[l]] = false;
                s.shaken[l][partners[l]]++;
            }
        }
        for (int[] row : s.feud) {
            for (int r = 0; r < 8; r++) {
                row[r] = Math.max(0, row[r] - 1);
            }
        }
        s.rounds++;
        return n;
    }

    private static boolean in(int n, int size) {
        return 0 <= n && n < size;
    }

    private void note() {
        history.addLast(state.copy());
        if (history.size() > 5) {
            history.removeFirst();
        }
    }

    int wish(int l, int r) {
        if (!in(l, 8) || !in(r, 8)) {
            return -1;
        }
        if (state.open[l][r]) {
            return -4;
        }
        note();
        state.open[l][r] = true;
        return state.openOnes();
    }

    int withdraw(int l, int r) {
        if (!in(l, 8) || !in(r, 8)) {
            return -1;
        }
        if (!state.open[l][r]) {
            return -4;
        }
        note();
        state.open[l][r] = false;
        return state.openOnes();
    }

    int quarrel(int l, int r, int rounds) {
        if (!in(l, 8) || !in(r, 8)) {
            return -1;
        }
        if (!in(rounds - 1, 50)) {
            return -2;
        }
        note();
        int before = state.feud[l][r];
        state.feud[l][r] = rounds;
        return before;
    }

    int reconcile(int l, int r) {
        if (!in(l, 8) || !in(r, 8)) {
            return -1;
        }
        int before = state.feud[l][r];
        if (before == 0) {
            return -4;
        }
        note();
        state.feud[l][r] = 0;
        return before;
    }

    int link(int l, int r, boolean isLinked) {
        if (!in(l, 4) || !in(r, 4)) {
            return -1;
        }
        note();
        boolean before = state.linked[l][r];
        state.linked[l][r] = isLinked;
        return before ? 1 : 0;
    }

    int move(boolean isLeft, int p, int gate) {
        if (!in(p, 8) || !in(gate, 4)) {
            return -1;
        }
        note();
        int[] gates = isLeft ? state.gatesOfLeft : state.gatesOfRight;
        int before = gates[p];
        gates[p] = gate;
        return before;
    }

    int round() {
        note();
        return makeRound(state);
    }

    int append(int c) {
        if (c < 32 || c > 126) {
            return -2;
        }
        if (text.length() == 80) {
            return -3;
        }
        text += (char) c;
        return text.length();
    }

    int clearText() {
        int before = text.length();
        text = "";
        return before;
    }

    private static final String PEOPLE = "(?=[0-7])0?1?2?3?4?5?6?7?";
    private static final String GROUP = PEOPLE + "-" + PEOPLE;

    private static boolean isList(String s) {
        return s.matches(GROUP + "(," + GROUP + ")*");
    }

    static boolean beginsAList(String s) {
        return isList(s) || isList(s + "-0") || isList(s + "0") || isList(s + "0-0");
    }

    String text() {
        return text;
    }

    int fault() {
        for (int i = 0; i < text.length(); i++) {
            if (!beginsAList(text.substring(0, i + 1))) {
                return i;
            }
        }
        return isList(text) ? -5 : text.length();
    }

    int read() {
        if (fault() != -5) {
            return -100 - fault();
        }
        note();
        int before = state.openOnes();
        for (String group : text.split(",")) {
            String[] sides = group.split("-");
            for (char l : sides[0].toCharArray()) {
                for (char r : sides[1].toCharArray()) {
                    state.open[l - '0'][r - '0'] = true;
                }
            }
        }
        return state.openOnes() - before;
    }

    int undo() {
        if (history.isEmpty()) {
            return -5;
        }
        state = history.removeLast();
        return history.size();
    }

    int save() {
        snapshot = state.copy();
        return state.openOnes();
    }

    int restore() {
        if (snapshot == null) {
            return -4;
        }
        note();
        state = snapshot.copy();
        return state.openOnes();
    }

    int person(boolean isLeft, int p, int what) {
        if (!in(p, 8)) {
            return -1;
        }
        if (!in(what, 6)) {
            return -2;
        }
        int[] told = new int[6];
        told[0] = isLeft ? state.gatesOfLeft[p] : state.gatesOfRight[p];
        for (int q = 0; q < 8; q++) {
            int l = isLeft ? p : q;
            int r = isLeft ? q : p;
            told[1] += state.open[l][r] ? 1 : 0;
            told[2] += state.possible(l, r) ? 1 : 0;
            told[3] += state.feud[l][r] > 0 ? 1 : 0;
            told[4] += state.shaken[l][r];
            told[5] += state.meet(l, r) ? 1 << q : 0;
        }
        return told[what];
    }

    int pair(int l, int r, int what) {
        if (!in(l, 8) || !in(r, 8)) {
            return -1;
        }
        if (!in(what, 4)) {
            return -2;
        }
        if (what == 0) {
            return state.open[l][r] ? 1 : 0;
        }
        if (what < 3) {
            return what == 1 ? state.feud[l][r] : state.shaken[l][r];
        }
        if (!state.open[l][r]) {
            return 1;
        }
        if (!state.sameGates(l, r)) {
            return 2;
        }
        if (state.feud[l][r] > 0) {
            return 3;
        }
        return first(state)[l] == r ? 0 : 4;
    }

    int isLinked(int l, int r) {
        if (!in(l, 4) || !in(r, 4)) {
            return -1;
        }
        return state.linked[l][r] ? 1 : 0;
    }

    int partner(boolean isLeft, int p) {
        if (!in(p, 8)) {
            return -1;
        }
        int[] partners = first(state);
        if (isLeft) {
            return partners[p];
        }
        for (int l = 0; l < 8; l++) {
            if (partners[l] == p) {
                return l;
            }
        }
        return -5;
    }

    int hindered() {
        int people = 0;
        for (int l = 0; l < 8; l++) {
            // Some greatest matching leaves l out if one without l is as great.
            if (person(true, l, 2) > 0 && most(state, l)[0][0] == greatest(state)) {
                people |= 1 << l;
            }
        }
        return people;
    }

    private static int edgeWith(List<int[]> edges, int side, int p, int number) {
        for (int i = 0; i < edges.size(); i++) {
            if (edges.get(i)[side] == p && edges.get(i)[2] == number) {
                return i;
            }
        }
        return -1;
    }

    private static int leastFree(List<int[]> edges, int side, int p) {
        TreeSet<Integer> taken = new TreeSet<>();
        for (int[] e : edges) {
            if (e[side] == p) {
                taken.add(e[2]);
            }
        }
        int least = 0;
        while (taken.contains(least)) {
            least++;
        }
        return least;
    }

    /** The plan as a list of {left, right, number}; the whole path is gathered before any number changes. */
    private List<int[]> plan() {
        List<int[]> edges = new ArrayList<>();
        for (int l = 0; l < 8; l++) {
            for (int r = 0; r < 8; r++) {
                if (!state.possible(l, r)) {
                    continue;
                }
                int a = leastFree(edges, 0, l);
                int b = leastFree(edges, 1, r);
                List<int[]> path = new ArrayList<>();
                int side = 1;
                int at = r;
                int number = a;
                int next = edgeWith(edges, side, at, number);
                while (next >= 0) {
                    int[] e = edges.get(next);
                    path.add(e);
                    side = 1 - side;
                    at = e[side];
                    number = a + b - number;
                    next = edgeWith(edges, side, at, number);
                }
                for (int[] e : path) {
                    e[2] = a + b - e[2];
                }
                edges.add(new int[] {l, r, a});
            }
        }
        return edges;
    }

    int planned(int l, int r) {
        if (!in(l, 8) || !in(r, 8)) {
            return -1;
        }
        for (int[] e : plan()) {
            if (e[0] == l && e[1] == r) {
                return e[2];
            }
        }
        return -5;
    }

    int count(int what) {
        int[] told = new int[10];
        told[0] = state.openOnes();
        for (int p = 0; p < 8; p++) {
            told[1] += person(true, p, 2);
            told[2] += person(true, p, 3);
            told[5] += person(true, p, 4);
            told[7] = Math.max(told[7], Math.max(person(true, p, 2), person(false, p, 2)));
        }
        for (boolean[] row : state.linked) {
            for (boolean is : row) {
                told[3] += is ? 1 : 0;
            }
        }
        told[4] = state.rounds;
        told[6] = greatest(state);
        told[8] = history.size();
        told[9] = text.length();
        return in(what, 10) ? told[what] : -2;
    }

    int doneIn() {
        State s = state.copy();
        for (int n = 0; n < 200; n++) {
            if (s.openOnes() == 0) {
                return n;
            }
            makeRound(s);
        }
        return s.openOnes() == 0 ? 200 : -5;
    }

    int bestLink() {
        int most = greatest(state);
        int best = -5;
        for (int pair = 0; pair < 16; pair++) {
            State s = state.copy();
            s.linked[pair / 4][pair % 4] = true;
            if (greatest(s) > most) {
                most = greatest(s);
                best = pair;
            }
        }
        return best;
    }

    double mean() {
        return state.rounds == 0 ? 0.0 : (double) count(5) / state.rounds;
    }
}
