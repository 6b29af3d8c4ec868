/** Promises 26 and 27: count, digest. */
public final class ToldTest {
    private static final int OUTSIDE = PianoJury.OUTSIDE;
    private static final Due DUE = new Due("ToldTest");

    public static void main(String[] args) {
        checkCount();
        checkDigestOfNew();
        checkDigestOrder();
        checkDigestOfProgrammes();
        DUE.end();
    }

    private static void checkCount() {
        PianoJury x = new PianoJury();
        x.contest(4, 3);
        x.mark(0, 0, 0, 5);
        x.mark(2, 2, 3, 5);
        x.mark(2, 2, 3, 6);
        x.mark(1, 0, 0, 5);
        x.mark(1, 0, 0, -1);
        x.yes(0, 0, 1, true);
        x.yes(1, 0, 1, true);
        x.yes(1, 0, 1, true);
        x.yes(2, 2, 3, true);
        x.pupil(2, 3, true);
        x.pupil(1, 3, true);
        x.pupil(0, 0, true);
        x.pupil(0, 1, true);
        x.pupil(0, 1, false);
        x.programme(0, 1);
        x.programme(3, 1);
        x.programme(3, 3);
        x.programme(3, 3);
        x.programme(3, 3);
        int[] counts = {4, 3, 2, 3, 3, 4};
        for (int what = 0; what < counts.length; what++) {
            DUE.is("count(" + what + ")", x.count(what), counts[what]);
        }
        DUE.refuses("count(6)", x, () -> x.count(6), OUTSIDE);
        DUE.refuses("count(-1)", x, () -> x.count(-1), OUTSIDE);
    }

    private static long digestOf(long... numbers) {
        long h = 193;
        for (long v : numbers) {
            h = 31 * h + v;
        }
        return h;
    }

    private static void checkDigestOfNew() {
        DUE.is("digest of a new object", new PianoJury().digest(), digestOf(1, 1, -1, 0, -1, 0, -1, 0, 0, 1, 10,
            1, 0, 0, 0, 0, 0, 0, 0, 0, 10, 10, 10, 10, 10, 10, 10, 10, 10, 10, 10, 10, -1));
    }

    private static void checkDigestOrder() {
        PianoJury x = new PianoJury();
        x.contest(2, 2);
        x.mark(0, 0, 1, 11);
        x.mark(0, 1, 0, 12);
        x.mark(1, 1, 1, 13);
        x.yes(0, 0, 1, true);
        x.yes(2, 1, 0, true);
        x.pupil(0, 1, true);
        x.rule(0, 2);
        x.rule(1, 17);
        x.weight(2, 9);
        x.weight(1, 8);
        x.prize(0, 1000000);
        x.prize(5, 3);
        x.work(0, 21);
        x.work(11, 22);
        DUE.is("digest in its order", x.digest(), digestOf(2, 2,
            -1, 0, 11, 1, 12, 0, -1, 0,
            -1, 0, -1, 0, -1, 0, 13, 0,
            -1, 0, -1, 0, -1, 1, -1, 0,
            0, 1, 0, 0, 2, 17, 1, 8, 9, 1000000, 0, 0, 0, 0, 3,
            21, 10, 10, 10, 10, 10, 10, 10, 10, 10, 10, 22, -1, -1));
    }

    private static void checkDigestOfProgrammes() {
        PianoJury x = new PianoJury();
        x.contest(2, 1);
        x.programme(0, 5);
        x.programme(0, 6);
        x.programme(1, 5);
        x.plan(0, 720, 1);
        DUE.is("no plan", x.digest(), digestWith(5, 6, -1, 5, -1));
        x.programme(1, 8);
        x.plan(0, 720, 1);
        DUE.is("plan", x.digest(), digestWith(5, 6, 0, 5, 8, 1));
    }

    private static long digestWith(long... behind) {
        long h = digestOf(2, 1, -1, 0, -1, 0, -1, 0, -1, 0, -1, 0, -1, 0, 0, 0, 1, 10,
            1, 0, 0, 0, 0, 0, 0, 0, 0, 10, 10, 10, 10, 10, 10, 10, 10, 10, 10, 10, 10);
        for (long v : behind) {
            h = 31 * h + v;
        }
        return h;
    }
}
