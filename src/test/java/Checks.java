/** Counts and prints the answers that are not as due; a test ends with end(). */
final class Checks {
    private int wrong;
    private int made;

    void due(String what, long got, long want) {
        made++;
        if (got != want) {
            tell(what, String.valueOf(got), String.valueOf(want));
        }
    }

    void dueDouble(String what, double got, double want) {
        made++;
        if (Double.doubleToLongBits(got) != Double.doubleToLongBits(want)) {
            tell(what, String.valueOf(got), String.valueOf(want));
        }
    }

    void dueTrue(String what, boolean holds) {
        made++;
        if (!holds) {
            tell(what, "false", "true");
        }
    }

    boolean isAllRight() {
        return wrong == 0;
    }

    void end() {
        System.out.println(made + " answers looked at, " + wrong + " not as due");
        if (wrong != 0 || made == 0) {
            System.exit(1);
        }
    }

    private void tell(String what, String got, String want) {
        wrong++;
        if (wrong <= 50) {
            System.out.println(what + ": answered " + got + ", due is " + want);
        }
    }
}
