import java.math.BigInteger;

/** Promises 26 and 27: count, digest. */
public final class ToldTest {
    private static final int OUTSIDE = PianoJury.OUTSIDE;
    private static final Due DUE = new Due("ToldTest");

    public static void main(String[] args) {
        checkCount();
        checkCountEdges();
        checkCountOfAll();
        checkDigestOfNew();
        checkDigestOrder();
        checkDigestOfProgrammes();
        checkDigestWraps();
        checkDigestOfAll();
        checkDigestTellsEach();
        DUE.end();
    }

    private static void checkCount() {
        PianoJury x = new PianoJury();
        x.contest(4, 3);
        x.mark(0, 0, 0, 5);
        x.mark(2, 2, 3, 5);
        x.mark(2, 2, 3, 6);
        x.mark(1, 0, 0, 5);
        x.mark(1, 0, 0, -1);
        x.yes(0, 0, 1, true);
        x.yes(1, 0, 1, true);
        x.yes(1, 0, 1, true);
        x.yes(2, 2, 3, true);
        x.pupil(2, 3, true);
        x.pupil(1, 3, true);
        x.pupil(0, 0, true);
        x.pupil(0, 1, true);
        x.pupil(0, 1, false);
        x.programme(0, 1);
        x.programme(3, 1);
        x.programme(3, 3);
        x.programme(3, 3);
        x.programme(3, 3);
        int[] counts = {4, 3, 2, 3, 3, 4};
        for (int what = 0; what < counts.length; what++) {
            DUE.is("count(" + what + ")", x.count(what), counts[what]);
        }
    }

    /** "How many: 0 .. 5. OUTSIDE." */
    private static void checkCountEdges() {
        for (int what : new int[] {-1, 6, 7, Integer.MIN_VALUE, Integer.MAX_VALUE}) {
            DUE.leaves("count(" + what + ")", PianoJury::new, x -> x.count(what), OUTSIDE);
        }
        int[] first = {1, 1, 0, 0, 0, 0};
        PianoJury x = new PianoJury();
        for (int what = 0; what < 6; what++) {
            DUE.is("count(" + what + ") of a new object", x.count(what), first[what]);
        }
    }

    /** The most there can be: all is marked, and all is taken back. */
    private static void checkCountOfAll() {
        PianoJury marks = new PianoJury();
        PianoJury yeses = new PianoJury();
        PianoJury others = new PianoJury();
        marks.contest(10, 7);
        yeses.contest(10, 7);
        others.contest(10, 7);
        for (int p = 0; p < 10; p++) {
            for (int i = 0; i < 3; i++) {
                others.programme(p, 7);
            }
            for (int j = 0; j < 7; j++) {
                others.pupil(j, p, true);
                for (int round = 0; round < 3; round++) {
                    marks.mark(round, j, p, 1);
                    yeses.yes(round, j, p, true);
                }
            }
        }
        others.mark(0, 6, 9, 100);
        others.yes(2, 6, 9, true);
        DUE.is("all marks", marks.count(2), 210);
        DUE.is("no yes among them", marks.count(3), 0);
        DUE.is("all yeses", yeses.count(3), 210);
        DUE.is("no mark among them", yeses.count(2), 0);
        DUE.is("a teacher's mark is given", others.count(2), 1);
        DUE.is("a teacher's yes is said", others.count(3), 1);
        DUE.is("all pupils", others.count(4), 70);
        DUE.is("all programmes", others.count(5), 30);
        for (int p = 0; p < 10; p++) {
            for (int j = 0; j < 7; j++) {
                for (int round = 0; round < 3; round++) {
                    marks.mark(round, j, p, -1);
                    yeses.yes(round, j, p, false);
                }
            }
        }
        DUE.is("no mark left", marks.count(2), 0);
        DUE.is("no yes left", yeses.count(3), 0);
    }

    private static long digestOf(long... numbers) {
        long h = 193;
        for (long v : numbers) {
            h = 31 * h + v;
        }
        return h;
    }

    private static void checkDigestOfNew() {
        DUE.is("digest of a new object", new PianoJury().digest(), digestOf(1, 1, -1, 0, -1, 0, -1, 0, 0, 1, 10,
            1, 0, 0, 0, 0, 0, 0, 0, 0, 10, 10, 10, 10, 10, 10, 10, 10, 10, 10, 10, 10, -1));
    }

    private static void checkDigestOrder() {
        PianoJury x = new PianoJury();
        x.contest(2, 2);
        x.mark(0, 0, 1, 11);
        x.mark(0, 1, 0, 12);
        x.mark(1, 1, 1, 13);
        x.yes(0, 0, 1, true);
        x.yes(2, 1, 0, true);
        x.pupil(0, 1, true);
        x.rule(0, 2);
        x.rule(1, 17);
        x.weight(2, 9);
        x.weight(1, 8);
        x.prize(0, 1000000);
        x.prize(5, 3);
        x.work(0, 21);
        x.work(11, 22);
        DUE.is("digest in its order", x.digest(), digestOf(2, 2,
            -1, 0, 11, 1, 12, 0, -1, 0,
            -1, 0, -1, 0, -1, 0, 13, 0,
            -1, 0, -1, 0, -1, 1, -1, 0,
            0, 1, 0, 0, 2, 17, 1, 8, 9, 1000000, 0, 0, 0, 0, 3,
            21, 10, 10, 10, 10, 10, 10, 10, 10, 10, 10, 22, -1, -1));
    }

    private static void checkDigestOfProgrammes() {
        PianoJury x = new PianoJury();
        x.contest(2, 1);
        x.programme(0, 5);
        x.programme(0, 6);
        x.programme(1, 5);
        x.plan(0, 720, 1);
        DUE.is("no plan", x.digest(), digestWith(5, 6, -1, 5, -1));
        x.programme(1, 8);
        x.plan(0, 720, 1);
        DUE.is("plan", x.digest(), digestWith(5, 6, 0, 5, 8, 1));
    }

    private static long digestWith(long... behind) {
        long h = digestOf(2, 1, -1, 0, -1, 0, -1, 0, -1, 0, -1, 0, -1, 0, 0, 0, 1, 10,
            1, 0, 0, 0, 0, 0, 0, 0, 0, 10, 10, 10, 10, 10, 10, 10, 10, 10, 10, 10, 10);
        for (long v : behind) {
            h = 31 * h + v;
        }
        return h;
    }

    /** "31 times h, and it (as longs, wrapping)": the number itself is far too large for a long. */
    private static void checkDigestWraps() {
        BigInteger h = BigInteger.valueOf(193);
        int[] numbers = {1, 1, -1, 0, -1, 0, -1, 0, 0, 1, 10, 1, 0, 0, 0, 0, 0, 0, 0, 0,
            10, 10, 10, 10, 10, 10, 10, 10, 10, 10, 10, 10, -1};
        for (int v : numbers) {
            h = h.multiply(BigInteger.valueOf(31)).add(BigInteger.valueOf(v));
        }
        DUE.is("it is too large", h.bitLength() > 64 ? 1 : 0, 1);
        DUE.is("what is left of it", new PianoJury().digest(), h.longValue());
    }

    /** The largest contest, each number told by a mark, a yes or a pupil of its own place. */
    private static void checkDigestOfAll() {
        PianoJury x = new PianoJury();
        x.contest(10, 7);
        long h = digestOf(10, 7);
        for (int round = 0; round < 3; round++) {
            for (int j = 0; j < 7; j++) {
                for (int p = 0; p < 10; p++) {
                    int v = round == 1 ? 1 + 10 * j + p : -1;
                    boolean is = round == 2 && (j + p) % 3 == 0;
                    x.mark(round, j, p, v);
                    x.yes(round, j, p, is);
                    h = 31 * (31 * h + v) + (is ? 1 : 0);
                }
            }
        }
        for (int j = 0; j < 7; j++) {
            for (int p = 0; p < 10; p++) {
                boolean is = (2 * j + p) % 5 == 0;
                h = 31 * h + (is ? 1 : 0);
                if (is) {
                    x.pupil(j, p, true);
                }
            }
        }
        for (long v : new long[] {1, 10, 1, 0, 0, 0, 0, 0, 0, 0, 0, 10, 10, 10, 10, 10, 10, 10, 10, 10, 10, 10, 10}) {
            h = 31 * h + v;
        }
        for (int p = 0; p < 10; p++) {
            for (int i = 0; i < p % 4; i++) {
                x.programme(p, 4095 - 3 * p - i);
                h = 31 * h + 4095 - 3 * p - i;
            }
            h = 31 * h - 1;
        }
        DUE.is("digest of the largest contest", x.digest(), h);
    }

    private interface Step {
        void on(PianoJury x);
    }

    /** Each thing that can be said changes the digest; what only asks does not (RefusalsTest). */
    private static void checkDigestTellsEach() {
        Step[] steps = {x -> x.mark(0, 0, 0, 1), x -> x.mark(2, 1, 2, 100), x -> x.yes(0, 0, 0, true),
            x -> x.yes(2, 1, 2, true), x -> x.pupil(1, 2, true), x -> x.rule(0, 2), x -> x.rule(1, 11),
            x -> x.weight(0, 2), x -> x.weight(1, 2), x -> x.weight(2, 2), x -> x.prize(0, 1), x -> x.prize(5, 1),
            x -> x.work(0, 1), x -> x.work(11, 1), x -> x.programme(0, 1), x -> x.programme(2, 1),
            x -> x.contest(3, 1), x -> x.contest(2, 2), x -> x.contest(2, 3)};
        for (int i = 0; i < steps.length; i++) {
            PianoJury x = new PianoJury();
            x.contest(3, 2);
            long before = x.digest();
            steps[i].on(x);
            DUE.is("step " + i + " is told", x.digest() != before ? 1 : 0, 1);
        }
    }
}
