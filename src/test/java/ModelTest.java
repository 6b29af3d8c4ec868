/** Runs of calls, drawn by a generator that always draws the same, on PianoJury and on Model: all answers agree. */
public final class ModelTest {
    private static final int RUNS = 1000;
    /** The document promises nothing behind the 512th call of an object, and a step makes four at most. */
    private static final int CALLS = 508;
    private static final Due DUE = new Due("ModelTest");

    private long seed = 20261119;
    private PianoJury x;
    private Model y;
    private int n;
    private int m;
    private int calls;

    public static void main(String[] args) {
        ModelTest test = new ModelTest();
        for (int run = 0; run < RUNS; run++) {
            test.run(run);
        }
        DUE.end();
    }

    private void run(int run) {
        x = new PianoJury();
        y = new Model();
        n = 1;
        m = 1;
        calls = 0;
        contest("run " + run + " at first: ");
        // In some runs jurors are close to one another, so that places are shared and one mark moves much.
        int spread = run % 3 == 0 ? 100 : run % 3 == 1 ? 12 : 3;
        int jumps = run % 5 == 0 ? 40 : 400;
        if (run % 2 == 0) {
            markAll("run " + run + " at first: ", spread);
        }
        while (calls <= CALLS) {
            String at = "run " + run + " call " + calls + ": ";
            if (below(jumps) == 0) {
                contest(at);
            }
            step(at, below(27), spread);
            if (below(4) == 0) {
                due(at + "digest()", x.digest(), y.digest());
            }
        }
        due("run " + run + " at last: digest()", x.digest(), y.digest());
    }

    /** Each call of x stands in one call of this. */
    private void due(String call, long got, long want) {
        calls++;
        DUE.is(call, got, want);
    }

    private void markAll(String at, int spread) {
        for (int j = 0; j < m; j++) {
            for (int p = 0; p < n; p++) {
                int v = spread == 100 ? 1 + below(100) : 50 + below(spread);
                due(at + "mark(0, " + j + ", " + p + ", " + v + ")", x.mark(0, j, p, v), y.mark(0, j, p, v));
            }
        }
    }

    private int below(int bound) {
        seed = seed * 6364136223846793005L + 1442695040888963407L;
        return (int) ((seed >>> 33) % bound);
    }

    /** Mostly from least to most, now and then just beside them or far away. */
    private int around(int least, int most) {
        int kind = below(60);
        if (kind == 0) {
            return least - 1;
        }
        if (kind == 1) {
            return most + 1;
        }
        if (kind == 2) {
            return below(2) == 0 ? Integer.MIN_VALUE + below(3) : Integer.MAX_VALUE - below(3);
        }
        return least + below(most - least + 1);
    }

    private void contest(String at) {
        int players = below(20) == 0 ? around(1, 10) : 1 + below(6) + below(5);
        int jurors = around(1, 7);
        String call = at + "contest(" + players + ", " + jurors + ")";
        int answer = y.contest(players, jurors);
        due(call, x.contest(players, jurors), answer);
        if (answer >= 0) {
            n = players;
            m = jurors;
        }
    }

    private void step(String at, int kind, int spread) {
        if (kind < 12) {
            say(at, kind, spread);
        } else if (kind < 19) {
            askWays(at, kind);
        } else if (kind < 22) {
            askRounds(at);
        } else {
            askProgrammes(at, spread);
        }
    }

    private void say(String at, int kind, int spread) {
        int r = below(3) == 0 ? around(0, 2) : 0;
        int j = around(0, m - 1);
        int p = around(0, n - 1);
        boolean is = below(3) != 0;
        if (kind < 8) {
            int v = below(30) == 0 ? -1 : spread == 100 ? around(1, 100) : 50 + below(spread);
            due(at + "mark(" + r + ", " + j + ", " + p + ", " + v + ")", x.mark(r, j, p, v), y.mark(r, j, p, v));
        } else if (kind < 10) {
            due(at + "yes(" + r + ", " + j + ", " + p + ", " + is + ")", x.yes(r, j, p, is), y.yes(r, j, p, is));
        } else if (kind == 10) {
            boolean teaches = below(4) == 0;
            due(at + "pupil(" + j + ", " + p + ", " + teaches + ")", x.pupil(j, p, teaches),
                y.pupil(j, p, teaches));
        } else {
            int which = around(0, 1);
            int v = which == 0 ? around(0, 2) : around(1, 50);
            due(at + "rule(" + which + ", " + v + ")", x.rule(which, v), y.rule(which, v));
        }
    }

    private void askWays(String at, int kind) {
        int r = below(8) == 0 ? around(0, 2) : 0;
        int way = around(0, 5);
        int other = around(0, 5);
        int j = around(0, m - 1);
        int p = around(0, n - 1);
        int q = around(0, n - 1);
        int k = below(3) == 0 ? around(1, 10) : 1 + below(n);
        int side = around(0, 1);
        String with = "(" + r + ", " + way + ", j " + j + ", p " + p + ", q " + q + ", k " + k + ", side " + side
            + ", other " + other + ")";
        switch (kind) {
            case 12 -> due(at + "score" + with, x.score(r, way, p), y.score(r, way, p));
            case 13 -> due(at + "beats" + with, x.beats(r, p, q), y.beats(r, p, q));
            case 14 -> due(at + "place" + with, x.place(r, way, p), y.place(r, way, p));
            case 15 -> due(at + "passed" + with, x.passed(r, way, k), y.passed(r, way, k));
            case 16 -> due(at + "differ" + with, x.differ(r, way, other, k), y.differ(r, way, other, k));
            case 17 -> due(at + "reach" + with, x.reach(r, way, j, p, side), y.reach(r, way, j, p, side));
            default -> due(at + "sway" + with, x.sway(r, way, j, k), y.sway(r, way, j, k));
        }
    }

    private void askRounds(String at) {
        int p = around(0, n - 1);
        int r = around(0, 2);
        int w = below(3) == 0 ? 0 : around(0, 10);
        int i = around(0, 5);
        int v = below(2) == 0 ? around(0, 1000000) : below(100);
        switch (below(6)) {
            case 0 -> due(at + "weight(" + r + ", " + w + ")", x.weight(r, w), y.weight(r, w));
            case 1 -> due(at + "total(" + p + ")", x.total(p), y.total(p));
            case 2 -> due(at + "last(" + p + ")", x.last(p), y.last(p));
            case 3 -> due(at + "prize(" + i + ", " + v + ")", x.prize(i, v), y.prize(i, v));
            case 4 -> due(at + "wins(" + p + ")", x.wins(p), y.wins(p));
            default -> due(at + "rest()", x.rest(), y.rest());
        }
    }

    private int works() {
        if (below(20) == 0) {
            return around(1, 4095);
        }
        return 1 << below(12) | 1 << below(12) | (below(3) == 0 ? 1 << below(12) : 0);
    }

    private void askProgrammes(String at, int spread) {
        int p = around(0, n - 1);
        int w = around(0, 11);
        int set = works();
        int minutes = spread == 100 ? around(1, 60) : 8 + below(5);
        int lot = below(4) == 0 ? around(0, 3628799) : around(0, 5);
        switch (below(9)) {
            case 0 -> due(at + "work(" + w + ", " + minutes + ")", x.work(w, minutes), y.work(w, minutes));
            case 1, 2, 3 -> due(at + "programme(" + p + ", " + set + ")", x.programme(p, set),
                y.programme(p, set));
            case 4, 5 -> plan(at);
            case 6 -> due(at + "chosen(" + p + ")", x.chosen(p), y.chosen(p));
            case 7 -> due(at + "heard(" + w + ")", x.heard(w), y.heard(w));
            default -> {
                due(at + "drawn(" + lot + ", " + p + ")", x.drawn(lot, p), y.drawn(lot, p));
                int what = around(0, 5);
                due(at + "count(" + what + ")", x.count(what), y.count(what));
            }
        }
    }

    private void plan(String at) {
        int least = below(2) == 0 ? below(25) : around(0, 720);
        int most = below(3) == 0 ? around(0, 720) : least + below(60);
        int times = around(1, 3);
        due(at + "plan(" + least + ", " + most + ", " + times + ")", x.plan(least, most, times),
            y.plan(least, most, times));
    }
}
