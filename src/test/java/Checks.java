/** Counts and prints the answers that are not the ones due; a test ends by {@link #end}. */
final class Checks {
    private int wrong;
    private int checked;
    private String promise = "";

    /** The promise that the checks from here on belong to. */
    void promise(int number, String what) {
        promise = "promise " + number + ", " + what;
    }

    void due(String call, int got, int want) {
        checked++;
        if (got != want) {
            wrong++;
            System.out.println(promise + ": " + call + " answered " + got + ", due is " + want);
        }
    }

    void due(String call, boolean got, boolean want) {
        checked++;
        if (got != want) {
            wrong++;
            System.out.println(promise + ": " + call + " answered " + got + ", due is " + want);
        }
    }

    void isTrue(String what, boolean holds) {
        due(what, holds, true);
    }

    void end() {
        System.out.println(checked + " checks, " + wrong + " wrong");
        if (wrong != 0) {
            System.exit(1);
        }
    }
}
