import java.util.ArrayList;
import java.util.List;
import java.util.function.Function;
import java.util.function.Supplier;
import java.util.function.ToIntFunction;

/** What can be seen of an object, line by line; a picture takes fewer than 260 of its 512 calls. */
final class Pictures {
    private Pictures() {
    }

    /** All that the state consists of. */
    static List<String> ofState(FenceHandshakes x) {
        List<String> lines = new ArrayList<>();
        for (int p = 0; p < 8; p++) {
            lines.add("gate of left " + p + " is " + x.person(true, p, 0));
            lines.add("gate of right " + p + " is " + x.person(false, p, 0));
        }
        for (int pair = 0; pair < 64; pair++) {
            for (int what = 0; what < 3; what++) {
                lines.add("pair " + pair / 8 + " " + pair % 8 + " tells " + what + " as "
                    + x.pair(pair / 8, pair % 8, what));
            }
        }
        for (int link = 0; link < 16; link++) {
            lines.add("link " + link / 4 + " " + link % 4 + " is " + x.isLinked(link / 4, link % 4));
        }
        lines.add("rounds so far are " + x.count(4));
        return lines;
    }

    /** The answers that follow from the state, and the sizes of the history and the text. */
    static List<String> ofAnswers(FenceHandshakes x) {
        List<String> lines = new ArrayList<>();
        for (int p = 0; p < 8; p++) {
            for (int what = 1; what < 6; what++) {
                lines.add("left " + p + " tells " + what + " as " + x.person(true, p, what));
                lines.add("right " + p + " tells " + what + " as " + x.person(false, p, what));
            }
            lines.add("partners of " + p + " are " + x.partner(true, p) + " and " + x.partner(false, p));
        }
        for (int pair = 0; pair < 64; pair++) {
            lines.add("pair " + pair / 8 + " " + pair % 8 + " has the reason " + x.pair(pair / 8, pair % 8, 3)
                + " and the number " + x.planned(pair / 8, pair % 8));
        }
        for (int what = 0; what < 10; what++) {
            lines.add("count " + what + " is " + x.count(what));
        }
        lines.add("hindered are " + x.hindered());
        lines.add("done in " + x.doneIn() + ", best link " + x.bestLink() + ", mean " + x.mean());
        lines.add("fault " + x.fault());
        return lines;
    }

    static List<String> ofSnapshot(FenceHandshakes x) {
        List<String> lines = new ArrayList<>();
        lines.add("restore answers " + x.restore());
        lines.addAll(ofState(x));
        return lines;
    }

    /** Of the state that so many undos lead to; more than five look behind the end of the history. */
    static List<String> ofUndone(FenceHandshakes x, int undos) {
        List<String> lines = new ArrayList<>();
        for (int n = 0; n < undos; n++) {
            lines.add("undo " + n + " answers " + x.undo());
        }
        lines.addAll(ofState(x));
        return lines;
    }

    /** The pairs that a text stands for show its characters; one more character shows its length. */
    static List<String> ofText(FenceHandshakes x) {
        List<String> lines = new ArrayList<>();
        lines.add("the text has " + x.count(9) + " characters and the fault " + x.fault());
        lines.add("read answers " + x.read());
        lines.addAll(ofState(x));
        lines.add("append answers " + x.append('7') + ", then the fault is " + x.fault());
        lines.add("clearText answers " + x.clearText());
        return lines;
    }

    /** All that can be seen is the same with the call and without it: state, answers, snapshot, text and history. */
    static void dueUnchanged(Checks checks, String what, Supplier<FenceHandshakes> setup,
            ToIntFunction<FenceHandshakes> call) {
        List<Function<FenceHandshakes, List<String>>> views = new ArrayList<>();
        views.add(Pictures::ofState);
        views.add(Pictures::ofAnswers);
        views.add(Pictures::ofSnapshot);
        views.add(Pictures::ofText);
        for (int undos = 1; undos <= 6; undos++) {
            int times = undos;
            views.add(x -> ofUndone(x, times));
        }
        for (Function<FenceHandshakes, List<String>> view : views) {
            FenceHandshakes called = setup.get();
            call.applyAsInt(called);
            checks.dueSame(what, view.apply(called), view.apply(setup.get()));
        }
    }
}
