/** Counts and prints the answers that are not as due. */
final class Check {
    private final String name;
    private int calls = 0;
    private int wrong = 0;

    Check(String name) {
        this.name = name;
    }

    void due(String call, long got, long want) {
        calls++;
        if (got != want) {
            report(call, Long.toString(got), Long.toString(want));
        }
    }

    void due(String call, String got, String want) {
        calls++;
        if (!got.equals(want)) {
            report(call, got, want);
        }
    }

    private void report(String call, String got, String want) {
        wrong++;
        if (wrong <= 40) {
            System.out.println(name + ": " + call + " answered " + got + ", due is " + want);
        }
    }

    boolean isClean() {
        return wrong == 0;
    }

    void end() {
        System.out.println(name + ": " + calls + " answers, " + wrong + " not as due");
        if (wrong != 0) {
            System.exit(1);
        }
    }
}
