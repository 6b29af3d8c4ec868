import java.util.function.Supplier;
import java.util.function.ToLongFunction;

/** Compares answers with what is due, prints each that differs, and ends the program with 1 if one did. */
final class Due {
    private final String test;
    private int asked = 0;
    private int wrong = 0;

    Due(String test) {
        this.test = test;
    }

    void is(String call, long got, long want) {
        asked++;
        if (got != want) {
            wrong++;
            System.out.println(test + ": " + call + " answered " + got + ", due is " + want);
        }
    }

    /**
     * The call answers so, and leaves all that the object tells as it was. The object is made for this call alone:
     * the document promises nothing behind the 512th call, and looking at all takes many.
     */
    void leaves(String call, Supplier<PianoJury> made, ToLongFunction<PianoJury> asking, long want) {
        PianoJury x = made.get();
        long before = told(x);
        is(call, asking.applyAsLong(x), want);
        is(call + " changes nothing", told(x), before);
    }

    void end() {
        System.out.println(test + ": " + asked + " answers, " + wrong + " wrong");
        if (asked == 0 || wrong != 0) {
            System.exit(1);
        }
    }

    /** One number of digest(), which tells the rules, all that was said and what is chosen, count() and heard(). */
    static long told(PianoJury x) {
        long h = x.digest();
        for (int what = 0; what < 6; what++) {
            h = 37 * h + x.count(what);
        }
        for (int w = 0; w < 12; w++) {
            h = 37 * h + x.heard(w);
        }
        return h;
    }
}
