/** What the tests of the project share: counting wrong answers, findings by name, feeding texts. */
final class Due {
    static final long LOW = -1000000000000L;
    static final long BEYOND = LOW - 1;
    static final long NONE = LOW - 2;
    static final long STATE = LOW - 3;
    static final long FULL = LOW - 4;
    static final long KIND = LOW - 5;
    static final long TEXT = LOW - 6;
    static final long DAY = LOW - 7;

    private final String test;
    private int asked;
    private int wrong;

    Due(String test) {
        this.test = test;
    }

    void is(String call, long want, long got) {
        asked++;
        if (want != got) {
            wrong++;
            System.out.println(test + ": " + call + " answered " + got + ", due is " + want);
        }
    }

    void holds(String what, boolean so) {
        asked++;
        if (!so) {
            wrong++;
            System.out.println(test + ": " + what);
        }
    }

    /** Prints how it went; ends with exit code 1 if an answer was wrong. */
    void end() {
        System.out.println(test + ": " + asked + " answers asked, " + wrong + " wrong");
        if (wrong != 0) {
            System.exit(1);
        }
    }

    /** Feeds a whole text (characters 0 to 255), eight bytes at a time; answers the last feed's answer. */
    static long feed(ChangerFair fair, String text) {
        long answer = 0;
        for (int at = 0; at < text.length(); at += 8) {
            int n = Math.min(8, text.length() - at);
            long eight = 0;
            for (int i = n - 1; i >= 0; i--) {
                eight = eight << 8 | text.charAt(at + i);
            }
            answer = fair.feed(eight, n);
        }
        return answer;
    }

    static long read(ChangerFair fair, String text) {
        feed(fair, text);
        return fair.read();
    }
}
