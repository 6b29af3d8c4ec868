import java.util.Arrays;
import java.util.function.Supplier;
import java.util.function.ToLongFunction;

/**
 * Promises 2 to 26, all that is refused: each number of each call at both its ends, just beyond them and far beyond,
 * with every mixture of right and wrong ones, so that of several refusals the first one told is the answer. A refused
 * call changes nothing, nor does one that only asks.
 */
public final class RefusalsTest {
    private static final int UNKNOWN = PianoJury.UNKNOWN;
    private static final int OUTSIDE = PianoJury.OUTSIDE;
    private static final int STATE = PianoJury.STATE;
    private static final int FULL = PianoJury.FULL;
    private static final int TAKEN = 0;
    private static final int[] FACTORIALS = {1, 1, 2, 6, 24, 120, 720, 5040, 40320, 362880, 3628800};
    private static final Due DUE = new Due("RefusalsTest");

    private final Supplier<PianoJury> made;
    private final boolean isFull;
    private final Taken rounds = unknownBut(0, 2);
    private final Taken jurors;
    private final Taken players;
    private final Taken ways = outsideBut(0, 5);
    private final Taken limits = outsideBut(1, 10);
    private final Taken lots;

    /** A number that a call takes, what the call answers to any other, and more that are tried than the edges. */
    private record Taken(int least, int most, int refusal, int... more) {
        boolean takes(int v) {
            return v >= least && v <= most;
        }

        int[] tried() {
            int[] edges = {Integer.MIN_VALUE, least - 1, least, most, most + 1, Integer.MAX_VALUE};
            int[] all = Arrays.copyOf(edges, edges.length + more.length);
            System.arraycopy(more, 0, all, edges.length, more.length);
            return all;
        }
    }

    private interface Call {
        long on(PianoJury x, int[] with);
    }

    /** What the call answers to numbers of which each one alone is taken. */
    private interface Together {
        int answer(int[] with);
    }

    /** isFull: each player is a pupil of each juror and has three programmes. */
    private RefusalsTest(Supplier<PianoJury> made, int n, int m, boolean isFull) {
        this.made = made;
        this.isFull = isFull;
        jurors = unknownBut(0, m - 1);
        players = unknownBut(0, n - 1);
        lots = outsideBut(0, FACTORIALS[n] - 1);
    }

    public static void main(String[] args) {
        DUE.is("there is a plan to keep", large().chosen(9) + smallAfterLarge().chosen(2) + full().chosen(3), 0);
        new RefusalsTest(PianoJury::new, 1, 1, false).checkAll();
        new RefusalsTest(RefusalsTest::large, 10, 7, false).checkAll();
        new RefusalsTest(RefusalsTest::smallAfterLarge, 3, 2, false).checkAll();
        new RefusalsTest(RefusalsTest::full, 4, 3, true).checkAll();
        DUE.end();
    }

    private static Taken unknownBut(int least, int most, int... more) {
        return new Taken(least, most, UNKNOWN, more);
    }

    private static Taken outsideBut(int least, int most, int... more) {
        return new Taken(least, most, OUTSIDE, more);
    }

    private static void fill(PianoJury x, int n, int m) {
        for (int p = 0; p < n; p++) {
            x.programme(p, 1 << p);
            x.yes(1, p % m, p, true);
            for (int j = 0; j < m; j++) {
                x.mark(0, j, p, 10 + (17 * p + 31 * j) % 80);
            }
        }
        x.plan(0, 720, 1);
    }

    private static PianoJury large() {
        PianoJury x = new PianoJury();
        x.contest(10, 7);
        x.prize(5, 77);
        x.weight(2, 3);
        fill(x, 10, 7);
        return x;
    }

    /** What the larger contest named is no name here. */
    private static PianoJury smallAfterLarge() {
        PianoJury x = large();
        x.contest(3, 2);
        fill(x, 3, 2);
        return x;
    }

    private static PianoJury full() {
        PianoJury x = new PianoJury();
        x.contest(4, 3);
        fill(x, 4, 3);
        for (int p = 0; p < 4; p++) {
            x.programme(p, 4095);
            x.programme(p, 4095);
            for (int j = 0; j < 3; j++) {
                x.pupil(j, p, true);
            }
        }
        return x;
    }

    private void checkAll() {
        checkWho();
        checkWays();
        checkRounds();
        checkProgrammes();
        checkTold();
    }

    private void checkWho() {
        says("contest", (x, a) -> x.contest(a[0], a[1]), outsideBut(1, 10), outsideBut(1, 7));
        tries("mark", false, (x, a) -> x.mark(a[0], a[1], a[2], a[3]), a -> a[3] == 0 ? OUTSIDE : TAKEN,
            rounds, jurors, players, outsideBut(-1, 100, 0, 1));
        says("yes true", (x, a) -> x.yes(a[0], a[1], a[2], true), rounds, jurors, players);
        says("yes false", (x, a) -> x.yes(a[0], a[1], a[2], false), rounds, jurors, players);
        says("pupil true", (x, a) -> x.pupil(a[0], a[1], true), jurors, players);
        says("pupil false", (x, a) -> x.pupil(a[0], a[1], false), jurors, players);
        tries("rule", false, (x, a) -> x.rule(a[0], a[1]),
            a -> (a[0] == 0 ? a[1] <= 2 : a[1] >= 1) ? TAKEN : OUTSIDE,
            unknownBut(0, 1), outsideBut(0, 50, 1, 2, 3));
    }

    private void checkWays() {
        asks("score", (x, a) -> x.score(a[0], a[1], a[2]), rounds, ways, players);
        asks("beats", (x, a) -> x.beats(a[0], a[1], a[2]), rounds, players, players);
        asks("place", (x, a) -> x.place(a[0], a[1], a[2]), rounds, ways, players);
        asks("passed", (x, a) -> x.passed(a[0], a[1], a[2]), rounds, ways, limits);
        asks("differ", (x, a) -> x.differ(a[0], a[1], a[2], a[3]), rounds, ways, ways, limits);
        tries("reach", true, (x, a) -> x.reach(a[0], a[1], a[2], a[3], a[4]), a -> isFull ? STATE : TAKEN,
            rounds, ways, jurors, players, outsideBut(0, 1));
        asks("sway", (x, a) -> x.sway(a[0], a[1], a[2], a[3]), rounds, ways, jurors, limits);
    }

    private void checkRounds() {
        says("weight", (x, a) -> x.weight(a[0], a[1]), rounds, outsideBut(0, 10));
        asks("total", (x, a) -> x.total(a[0]), players);
        asks("last", (x, a) -> x.last(a[0]), players);
        says("prize", (x, a) -> x.prize(a[0], a[1]), unknownBut(0, 5), outsideBut(0, 1000000));
        asks("wins", (x, a) -> x.wins(a[0]), players);
        asks("rest", (x, a) -> x.rest());
    }

    private void checkProgrammes() {
        says("work", (x, a) -> x.work(a[0], a[1]), unknownBut(0, 11), outsideBut(1, 60));
        tries("programme", false, (x, a) -> x.programme(a[0], a[1]), a -> isFull ? FULL : TAKEN,
            players, outsideBut(1, 4095));
        tries("plan", false, (x, a) -> x.plan(a[0], a[1], a[2]), a -> a[1] < a[0] ? OUTSIDE : TAKEN,
            outsideBut(0, 720, 1, 719), outsideBut(0, 720, 1, 719), outsideBut(1, 3));
        asks("chosen", (x, a) -> x.chosen(a[0]), players);
        asks("heard", (x, a) -> x.heard(a[0]), unknownBut(0, 11));
        asks("drawn", (x, a) -> x.drawn(a[0], a[1]), lots, players);
    }

    private void checkTold() {
        asks("count", (x, a) -> x.count(a[0]), outsideBut(0, 5));
        PianoJury x = made.get();
        DUE.is("digest twice", x.digest(), x.digest());
    }

    private void says(String name, Call call, Taken... numbers) {
        tries(name, false, call, a -> TAKEN, numbers);
    }

    private void asks(String name, Call call, Taken... numbers) {
        tries(name, true, call, a -> TAKEN, numbers);
    }

    private void tries(String name, boolean onlyAsks, Call call, Together together, Taken... numbers) {
        int mixtures = 1;
        for (Taken number : numbers) {
            mixtures *= number.tried().length;
        }
        int[] with = new int[numbers.length];
        for (int mixture = 0; mixture < mixtures; mixture++) {
            int left = mixture;
            for (int i = 0; i < numbers.length; i++) {
                int[] tried = numbers[i].tried();
                with[i] = tried[left % tried.length];
                left /= tried.length;
            }
            tryOne(name + Arrays.toString(with), onlyAsks, x -> call.on(x, with),
                answerTo(with, numbers, together));
        }
    }

    private static int answerTo(int[] with, Taken[] numbers, Together together) {
        for (int refusal : new int[] {UNKNOWN, OUTSIDE}) {
            for (int i = 0; i < numbers.length; i++) {
                if (numbers[i].refusal == refusal && !numbers[i].takes(with[i])) {
                    return refusal;
                }
            }
        }
        return together.answer(with);
    }

    private void tryOne(String name, boolean onlyAsks, ToLongFunction<PianoJury> call, int want) {
        if (want != TAKEN) {
            DUE.leaves(name, made, call, want);
        } else if (onlyAsks) {
            DUE.leaves(name + " is taken", made, x -> call.applyAsLong(x) >= PianoJury.NONE ? 1 : 0, 1);
        } else {
            DUE.is(name + " is taken", call.applyAsLong(made.get()) >= PianoJury.NONE ? 1 : 0, 1);
        }
    }
}
