import java.util.Arrays;

/** Compares answers with those that are due, and ends a test with exit code 1 if one was wrong. */
final class Bench {
    private final String test;
    private int checks = 0;
    private int wrong = 0;

    Bench(String test) {
        this.test = test;
    }

    void due(String what, long got, long want) {
        checks++;
        if (got != want) {
            tell(what, Long.toString(got), Long.toString(want));
        }
    }

    void due(String what, int[] got, int[] want) {
        checks++;
        if (!Arrays.equals(got, want)) {
            tell(what, Arrays.toString(got), Arrays.toString(want));
        }
    }

    void due(String what, String got, String want) {
        checks++;
        if (!got.equals(want)) {
            tell(what, got, want);
        }
    }

    private void tell(String what, String got, String want) {
        wrong++;
        System.out.println(test + ": " + what + " answered " + got + ", due is " + want);
    }

    void end() {
        System.out.println(test + ": " + checks + " checks, " + wrong + " wrong");
        if (wrong != 0 || checks == 0) {
            System.exit(1);
        }
    }
}
