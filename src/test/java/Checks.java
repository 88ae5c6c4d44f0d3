/** Counts the answers that are not the ones that are due, and ends a test with exit code 1 if there was one. */
final class Checks {
    private static final int MOST_PRINTED = 40;
    private final String name;
    private int made;
    private int wrong;

    Checks(String name) {
        this.name = name;
    }

    void due(String what, int got, int want) {
        made++;
        if (got != want) {
            tell(what + " answered " + got + ", due is " + want);
        }
    }

    void due(String what, boolean got, boolean want) {
        made++;
        if (got != want) {
            tell(what + " answered " + got + ", due is " + want);
        }
    }

    void holds(String what, boolean truth) {
        due(what, truth, true);
    }

    void thrown(String what, RuntimeException thrown) {
        made++;
        tell(what + " threw " + thrown);
    }

    int wrong() {
        return wrong;
    }

    void end() {
        System.out.println(name + ": " + made + " answers looked at, " + wrong + " wrong");
        if (wrong > 0) {
            System.exit(1);
        }
    }

    private void tell(String text) {
        wrong++;
        if (wrong <= MOST_PRINTED) {
            System.out.println(name + ": " + text);
        }
    }
}
