/** Tells every answer that is not the one that is due. */
final class Due {
    private final String test;
    private int wrong;
    private int asked;

    Due(String test) {
        this.test = test;
    }

    void is(String call, long got, long want) {
        asked++;
        if (got == want) return;
        wrong++;
        System.out.println(test + ": " + call + " answered " + got + ", due is " + want);
    }

    void end() {
        System.out.println(test + ": " + asked + " answers, " + wrong + " wrong");
        if (wrong != 0) System.exit(1);
    }

    /** Puts a text on the tape, and says how many bytes it has then. */
    static int feed(LampThatFollows x, String text) {
        int has = x.many(5);
        for (int i = 0; i < text.length(); i += 8) {
            int n = Math.min(8, text.length() - i);
            long eight = 0;
            for (int k = n - 1; k >= 0; k--) eight = eight << 8 | text.charAt(i + k);
            has = x.feed(eight, n);
        }
        return has;
    }

    static int rules(LampThatFollows x, String text) {
        feed(x, text);
        return x.rules();
    }

    static LampThatFollows dancing(int... places) {
        LampThatFollows x = new LampThatFollows();
        for (int place : places) x.dance(place);
        return x;
    }
}
