/** Promises 1 to 6: a new object, contest, mark, yes, pupil, rule. */
public final class WhoTest {
    private static final int NONE = PianoJury.NONE;
    private static final int UNKNOWN = PianoJury.UNKNOWN;
    private static final int OUTSIDE = PianoJury.OUTSIDE;
    private static final Due DUE = new Due("WhoTest");

    public static void main(String[] args) {
        checkNewObject();
        checkContest();
        checkContestKeeps();
        checkContestRefusals();
        checkMark();
        checkYes();
        checkPupil();
        checkRule();
        DUE.end();
    }

    private static void checkNewObject() {
        PianoJury x = new PianoJury();
        DUE.is("players", x.count(0), 1);
        DUE.is("jurors", x.count(1), 1);
        for (int what = 2; what <= 5; what++) {
            DUE.is("count(" + what + ") at first", x.count(what), 0);
        }
        DUE.is("mark at first", x.mark(2, 0, 0, 5), NONE);
        DUE.is("yes at first", x.yes(2, 0, 0, false), 0);
        DUE.is("pupil at first", x.pupil(0, 0, false), 0);
        DUE.is("player 1 at first", x.chosen(1), UNKNOWN);
        DUE.is("chosen at first", x.chosen(0), NONE);
        DUE.is("heard at first", x.heard(11), 0);
        DUE.is("CUTS at first", x.rule(0, 0), 1);
        DUE.is("PULL at first", x.rule(1, 1), 10);
        DUE.is("WEIGHT 0 at first", x.weight(0, 0), 1);
        DUE.is("WEIGHT 1 at first", x.weight(1, 0), 0);
        DUE.is("WEIGHT 2 at first", x.weight(2, 0), 0);
        for (int i = 0; i < 6; i++) {
            DUE.is("PRIZE " + i + " at first", x.prize(i, 0), 0);
        }
        for (int w = 0; w < 12; w++) {
            DUE.is("MINUTES of " + w + " at first", x.work(w, 10), 10);
        }
    }

    private static PianoJury full() {
        PianoJury x = new PianoJury();
        x.contest(10, 7);
        for (int p = 0; p < 10; p++) {
            x.programme(p, 1 << p);
            for (int j = 0; j < 7; j++) {
                x.pupil(j, p, (p + j) % 2 == 0);
                for (int round = 0; round < 3; round++) {
                    x.mark(round, j, p, 50 + j);
                    x.yes(round, j, p, true);
                }
            }
        }
        DUE.is("plan of the full contest", x.plan(0, 720, 1), 1);
        return x;
    }

    private static void checkContest() {
        PianoJury x = full();
        DUE.is("marks of the full contest", x.count(2), 210);
        DUE.is("contest(2, 2)", x.contest(2, 2), 2);
        DUE.is("players", x.count(0), 2);
        DUE.is("jurors", x.count(1), 2);
        for (int what = 2; what <= 5; what++) {
            DUE.is("count(" + what + ") after contest", x.count(what), 0);
        }
        DUE.is("chosen after contest", x.chosen(1), NONE);
        DUE.is("heard after contest", x.heard(1), 0);
        DUE.is("contest(10, 7)", x.contest(10, 7), 10);
        PianoJury y = new PianoJury();
        y.contest(10, 7);
        DUE.is("nothing old comes back in a larger contest", x.digest(), y.digest());
        DUE.is("the same contest once more", full().contest(10, 7), 10);
        DUE.is("programme after contest is the first", x.programme(9, 1), 1);
    }

    private static void checkContestKeeps() {
        PianoJury x = new PianoJury();
        x.rule(0, 2);
        x.rule(1, 33);
        x.weight(2, 7);
        x.prize(5, 99);
        x.work(11, 60);
        x.contest(3, 3);
        DUE.is("CUTS stay", x.rule(0, 2), 2);
        DUE.is("PULL stays", x.rule(1, 33), 33);
        DUE.is("WEIGHTS stay", x.weight(2, 7), 7);
        DUE.is("PRIZES stay", x.prize(5, 99), 99);
        DUE.is("MINUTES stay", x.work(11, 60), 60);
    }

    private static void checkContestRefusals() {
        PianoJury x = full();
        int[][] wrong = {{0, 1}, {11, 1}, {-1, 1}, {1, 0}, {1, 8}, {1, -1}, {0, 0},
            {Integer.MIN_VALUE, 1}, {1, Integer.MAX_VALUE}};
        for (int[] nm : wrong) {
            DUE.refuses("contest(" + nm[0] + ", " + nm[1] + ")", x, () -> x.contest(nm[0], nm[1]), OUTSIDE);
        }
        DUE.is("contest(1, 1)", x.contest(1, 1), 1);
        DUE.is("contest(10, 7)", x.contest(10, 7), 10);
    }

    private static void checkMark() {
        PianoJury x = new PianoJury();
        x.contest(3, 2);
        DUE.is("first mark", x.mark(1, 1, 2, 1), NONE);
        DUE.is("second mark", x.mark(1, 1, 2, 100), 1);
        DUE.is("no mark", x.mark(1, 1, 2, NONE), 100);
        DUE.is("mark again", x.mark(1, 1, 2, 40), NONE);
        DUE.is("another round", x.mark(0, 1, 2, 41), NONE);
        DUE.is("another juror", x.mark(1, 0, 2, 42), NONE);
        DUE.is("another player", x.mark(1, 1, 1, 43), NONE);
        DUE.is("it is still there", x.mark(1, 1, 2, 40), 40);
        int[] wrong = {0, 101, -2, Integer.MIN_VALUE, Integer.MAX_VALUE, -101};
        for (int v : wrong) {
            DUE.refuses("mark v " + v, x, () -> x.mark(1, 1, 2, v), OUTSIDE);
        }
        int[][] unknown = {{3, 0, 0}, {-1, 0, 0}, {0, 2, 0}, {0, -1, 0}, {0, 0, 3}, {0, 0, -1}};
        for (int[] u : unknown) {
            DUE.refuses("mark, unknown", x, () -> x.mark(u[0], u[1], u[2], 5), UNKNOWN);
            DUE.refuses("mark, unknown ahead of outside", x, () -> x.mark(u[0], u[1], u[2], 0), UNKNOWN);
            DUE.refuses("yes, unknown", x, () -> x.yes(u[0], u[1], u[2], true), UNKNOWN);
        }
    }

    private static void checkYes() {
        PianoJury x = new PianoJury();
        x.contest(3, 2);
        DUE.is("yes", x.yes(2, 1, 2, true), 0);
        DUE.is("yes again", x.yes(2, 1, 2, true), 1);
        DUE.is("times YES said", x.count(3), 1);
        DUE.is("other round", x.yes(1, 1, 2, true), 0);
        DUE.is("other juror", x.yes(2, 0, 2, true), 0);
        DUE.is("other player", x.yes(2, 1, 1, true), 0);
        DUE.is("not", x.yes(2, 1, 2, false), 1);
        DUE.is("not again", x.yes(2, 1, 2, false), 0);
        DUE.is("times YES said", x.count(3), 3);
    }

    private static void checkPupil() {
        PianoJury x = new PianoJury();
        x.contest(3, 2);
        DUE.is("pupil", x.pupil(1, 2, true), 0);
        DUE.is("pupil again", x.pupil(1, 2, true), 1);
        DUE.is("of the other juror", x.pupil(0, 2, true), 0);
        DUE.is("the other player", x.pupil(1, 0, true), 0);
        DUE.is("no more", x.pupil(1, 2, false), 1);
        DUE.is("no more again", x.pupil(1, 2, false), 0);
        DUE.is("PUPILS", x.count(4), 2);
        int[][] unknown = {{2, 0}, {-1, 0}, {0, 3}, {0, -1}, {7, 10}};
        for (int[] u : unknown) {
            DUE.refuses("pupil, unknown", x, () -> x.pupil(u[0], u[1], true), UNKNOWN);
        }
    }

    private static void checkRule() {
        PianoJury x = new PianoJury();
        DUE.is("CUTS 0", x.rule(0, 0), 1);
        DUE.is("CUTS 2", x.rule(0, 2), 0);
        DUE.is("CUTS 1", x.rule(0, 1), 2);
        DUE.is("PULL 1", x.rule(1, 1), 10);
        DUE.is("PULL 50", x.rule(1, 50), 1);
        DUE.is("PULL 10", x.rule(1, 10), 50);
        int[][] outside = {{0, -1}, {0, 3}, {1, 0}, {1, 51}, {1, -1}, {0, Integer.MAX_VALUE}};
        for (int[] o : outside) {
            DUE.refuses("rule(" + o[0] + ", " + o[1] + ")", x, () -> x.rule(o[0], o[1]), OUTSIDE);
        }
        DUE.refuses("rule(2, 1)", x, () -> x.rule(2, 1), UNKNOWN);
        DUE.refuses("rule(-1, 1)", x, () -> x.rule(-1, 1), UNKNOWN);
        DUE.refuses("rule(2, -1)", x, () -> x.rule(2, -1), UNKNOWN);
    }
}
