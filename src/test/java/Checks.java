import java.util.List;
import java.util.function.IntUnaryOperator;

/** Counts and prints the answers that are not as due; a test ends with end(). */
final class Checks {
    private int wrong;
    private int made;
    private int sentences;
    private int broken;

    /** A test of its own for a sentence of the document, whose words and place are told if it does not hold. */
    void sentence(String place, String words, Runnable test) {
        int madeBefore = made;
        int wrongBefore = wrong;
        sentences++;
        try {
            test.run();
        } catch (RuntimeException thrown) {
            tell("a call", thrown.toString(), "an answer");
        }
        if (made == madeBefore) {
            tell("the test", "nothing looked at", "an answer looked at");
        }
        if (wrong != wrongBefore) {
            broken++;
            System.out.println("does not hold: " + place + ": " + words);
        }
    }

    void due(String what, long got, long want) {
        made++;
        if (got != want) {
            tell(what, String.valueOf(got), String.valueOf(want));
        }
    }

    void dueDouble(String what, double got, double want) {
        made++;
        if (Double.doubleToLongBits(got) != Double.doubleToLongBits(want)) {
            tell(what, String.valueOf(got), String.valueOf(want));
        }
    }

    void dueTrue(String what, boolean holds) {
        made++;
        if (!holds) {
            tell(what, "false", "true");
        }
    }

    /** Of two pictures that differ only the first line that does is told. */
    void dueSame(String what, List<String> got, List<String> want) {
        made++;
        for (int at = 0; at < Math.max(got.size(), want.size()); at++) {
            String gotLine = at < got.size() ? got.get(at) : "nothing";
            String wantLine = at < want.size() ? want.get(at) : "nothing";
            if (!gotLine.equals(wantLine)) {
                tell(what, gotLine, wantLine);
                return;
            }
        }
    }

    /** Every value of the range is answered as due, and those beside it and far from it with the code. */
    void range(String what, int least, int greatest, int code, IntUnaryOperator answer, IntUnaryOperator want) {
        for (int value = least; value <= greatest; value++) {
            due(what + " " + value, answer.applyAsInt(value), want.applyAsInt(value));
        }
        // The far ones would be in the range again if they were cut to a byte, to 16 bits or to their last bits.
        int[] outside = {least - 1, greatest + 1, least - 256, greatest + 256, least + 65536, greatest - 65536,
            least + (1 << 30), Integer.MIN_VALUE + least, Integer.MIN_VALUE, Integer.MAX_VALUE, ~least, ~greatest};
        for (int value : outside) {
            due(what + " " + value, answer.applyAsInt(value), code);
        }
    }

    boolean isAllRight() {
        return wrong == 0;
    }

    void end() {
        if (sentences > 0) {
            System.out.println(sentences + " sentences, " + broken + " do not hold");
        }
        System.out.println(made + " answers looked at, " + wrong + " not as due");
        if (wrong != 0 || made == 0) {
            System.exit(1);
        }
    }

    private void tell(String what, String got, String want) {
        wrong++;
        if (wrong <= 50) {
            System.out.println(what + ": answered " + got + ", due is " + want);
        }
    }
}
