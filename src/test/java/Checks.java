/** Counts and prints the answers that are not the ones due; a test ends by {@link #end}. */
final class Checks {
    private int wrong;
    private int checked;
    private String about = "";

    /** The promise that the checks from here on belong to. */
    void promise(int number, String what) {
        about = "promise " + number + ", " + what;
    }

    /** Words of 'What it is' or 'Terms' that the checks from here on belong to; [..] is what is left out of them. */
    void sentence(String words) {
        about = "'" + words + "'";
    }

    /** Words of a promise that the checks from here on belong to; [..] is what is left out of them. */
    void sentence(int promise, String words) {
        about = "promise " + promise + ", '" + words + "'";
    }

    void due(String call, int got, int want) {
        checked++;
        if (got != want) {
            wrong++;
            System.out.println(about + ": " + call + " answered " + got + ", due is " + want);
        }
    }

    void due(String call, boolean got, boolean want) {
        checked++;
        if (got != want) {
            wrong++;
            System.out.println(about + ": " + call + " answered " + got + ", due is " + want);
        }
    }

    void isTrue(String what, boolean holds) {
        due(what, holds, true);
    }

    void message(LeasedReferences x, int k, int... parts) {
        for (int which = 0; which < parts.length; which++) {
            due("message(" + k + ", " + which + ")", x.message(k, which), parts[which]);
        }
    }

    void end() {
        System.out.println(checked + " checks, " + wrong + " wrong");
        if (wrong != 0) {
            System.exit(1);
        }
    }
}
