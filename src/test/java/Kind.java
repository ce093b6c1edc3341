/** The kinds of messages. */
final class Kind {
    static final int PASS = 0;
    static final int TAKEN = 1;
    static final int DIRTY = 2;
    static final int LISTED = 3;
    static final int GONE = 4;
    static final int CLEAN = 5;
    static final int CALL = 6;
    static final int ANSWER = 7;
    static final int NOOBJECT = 8;

    private Kind() {
    }
}
