import java.util.function.IntSupplier;

/** Compares answers with what is due, prints each that differs, and ends the program with 1 if one did. */
final class Due {
    private final String test;
    private int asked = 0;
    private int wrong = 0;

    Due(String test) {
        this.test = test;
    }

    void is(String call, long got, long want) {
        asked++;
        if (got != want) {
            wrong++;
            System.out.println(test + ": " + call + " answered " + got + ", due is " + want);
        }
    }

    /** The call answers the refusal, and nothing that digest(), chosen() or heard() tells has changed. */
    void refuses(String call, PianoJury x, IntSupplier made, int want) {
        long before = told(x);
        is(call, made.getAsInt(), want);
        is(call + " changes nothing", told(x), before);
    }

    void end() {
        System.out.println(test + ": " + asked + " answers, " + wrong + " wrong");
        if (asked == 0 || wrong != 0) {
            System.exit(1);
        }
    }

    private static long told(PianoJury x) {
        long h = x.digest();
        for (int w = 0; w < 12; w++) {
            h = 37 * h + x.heard(w);
        }
        return h;
    }
}
