/** Promises 1 to 6: a new object, contest, mark, yes, pupil, rule. What they refuse, RefusalsTest tries. */
public final class WhoTest {
    private static final int NONE = PianoJury.NONE;
    private static final int UNKNOWN = PianoJury.UNKNOWN;
    private static final int OUTSIDE = PianoJury.OUTSIDE;
    private static final Due DUE = new Due("WhoTest");

    public static void main(String[] args) {
        checkNewObject();
        checkNewRules();
        checkObjectsApart();
        checkContestSizes();
        checkContestClears();
        checkContestKeeps();
        checkContestRefused();
        checkMark();
        checkMarkEdges();
        checkNothingAtFirst();
        checkYes();
        checkPupil();
        checkRule();
        checkRuleEdges();
        DUE.end();
    }

    /** "One PLAYER, one JUROR." */
    private static void checkNewObject() {
        PianoJury x = new PianoJury();
        DUE.is("players", x.count(0), 1);
        DUE.is("jurors", x.count(1), 1);
        for (int what = 2; what <= 5; what++) {
            DUE.is("count(" + what + ") at first", x.count(what), 0);
        }
        for (int round = 0; round < 3; round++) {
            DUE.is("mark at first", x.mark(round, 0, 0, 5), NONE);
            DUE.is("yes at first", x.yes(round, 0, 0, false), 0);
            DUE.is("no second player", x.mark(round, 0, 1, 5), UNKNOWN);
            DUE.is("no second juror", x.mark(round, 1, 0, 5), UNKNOWN);
        }
        DUE.is("pupil at first", x.pupil(0, 0, false), 0);
        DUE.is("chosen at first", x.chosen(0), NONE);
        DUE.is("chosen of a second player", x.chosen(1), UNKNOWN);
        for (int w = 0; w < 12; w++) {
            DUE.is("heard at first", x.heard(w), 0);
        }
        DUE.is("first programme", x.programme(0, 1), 1);
    }

    /** "1 at first", "10 at first", "1, 0, 0 at first", "0 at first". */
    private static void checkNewRules() {
        PianoJury x = new PianoJury();
        DUE.is("CUTS at first", x.rule(0, 0), 1);
        DUE.is("PULL at first", x.rule(1, 1), 10);
        DUE.is("WEIGHT 0 at first", x.weight(0, 0), 1);
        DUE.is("WEIGHT 1 at first", x.weight(1, 0), 0);
        DUE.is("WEIGHT 2 at first", x.weight(2, 0), 0);
        for (int i = 0; i < 6; i++) {
            DUE.is("PRIZE " + i + " at first", x.prize(i, 0), 0);
        }
        for (int w = 0; w < 12; w++) {
            DUE.is("MINUTES of " + w + " at first", x.work(w, 10), 10);
        }
    }

    /** What is said to one object, another one does not tell. */
    private static void checkObjectsApart() {
        PianoJury other = new PianoJury();
        long before = Due.told(other);
        full();
        DUE.is("an object beside it", Due.told(other), before);
        DUE.is("an object behind it", Due.told(new PianoJury()), before);
    }

    /** As much as 512 calls can say: all marks of round 2, some of the others, pupils, programmes and a plan. */
    private static PianoJury full() {
        PianoJury x = new PianoJury();
        x.contest(10, 7);
        for (int p = 0; p < 10; p++) {
            x.programme(p, 1 << p);
            for (int j = 0; j < 7; j++) {
                x.pupil(j, p, (p + j) % 2 == 0);
                x.mark((p + j) % 2, j, p, 50 + j);
                x.mark(2, j, p, 60 + j);
                x.yes((p + j) % 3, j, p, true);
            }
        }
        x.plan(0, 720, 1);
        return x;
    }

    /** "n 1 to 10", "m 1 to 7": each size, and its last player and juror. */
    private static void checkContestSizes() {
        PianoJury x = new PianoJury();
        for (int n = 1; n <= 10; n++) {
            int m = (n - 1) % 7 + 1;
            DUE.is("contest(" + n + ", " + m + ")", x.contest(n, m), n);
            DUE.is("players", x.count(0), n);
            DUE.is("jurors", x.count(1), m);
            DUE.is("the last ones", x.mark(2, m - 1, n - 1, 100), NONE);
            DUE.is("a player behind the last", x.mark(2, m - 1, n, 100), UNKNOWN);
            DUE.is("a juror behind the last", x.mark(2, m, n - 1, 100), UNKNOWN);
        }
        DUE.is("contest(1, 7)", x.contest(1, 7), 1);
        DUE.is("contest(10, 1)", x.contest(10, 1), 10);
    }

    /** "nothing marked, no PUPILS, PROGRAMMES". */
    private static void checkContestClears() {
        PianoJury x = full();
        DUE.is("marks of the full contest", x.count(2), 140);
        DUE.is("contest(2, 2)", x.contest(2, 2), 2);
        for (int what = 2; what <= 5; what++) {
            DUE.is("count(" + what + ") after contest", x.count(what), 0);
        }
        DUE.is("chosen after contest", x.chosen(1), NONE);
        DUE.is("heard after contest", x.heard(1), 0);
        DUE.is("contest(10, 7)", x.contest(10, 7), 10);
        PianoJury y = new PianoJury();
        y.contest(10, 7);
        DUE.is("nothing old comes back in a larger contest", Due.told(x), Due.told(y));
        PianoJury same = full();
        DUE.is("the same contest once more", same.contest(10, 7), 10);
        DUE.is("nothing old in the same contest", Due.told(same), Due.told(y));
        DUE.is("programme after contest is the first", same.programme(9, 1), 1);
        PianoJury one = new PianoJury();
        one.mark(0, 0, 0, 7);
        DUE.is("contest(1, 1)", one.contest(1, 1), 1);
        DUE.is("as a new object", Due.told(one), Due.told(new PianoJury()));
    }

    private static void checkContestKeeps() {
        PianoJury x = new PianoJury();
        x.rule(0, 2);
        x.rule(1, 33);
        x.weight(2, 7);
        x.prize(5, 99);
        x.work(11, 60);
        x.contest(3, 3);
        DUE.is("CUTS stay", x.rule(0, 2), 2);
        DUE.is("PULL stays", x.rule(1, 33), 33);
        DUE.is("WEIGHTS stay", x.weight(2, 7), 7);
        DUE.is("PRIZES stay", x.prize(5, 99), 99);
        DUE.is("MINUTES stay", x.work(11, 60), 60);
    }

    /** "they change nothing": also what only a full object has to lose. */
    private static void checkContestRefused() {
        int[][] wrong = {{0, 7}, {11, 7}, {10, 0}, {10, 8}, {0, 0}, {11, 8}, {-1, -1}};
        for (int[] nm : wrong) {
            String call = "contest(" + nm[0] + ", " + nm[1] + ")";
            DUE.leaves(call, WhoTest::full, x -> x.contest(nm[0], nm[1]), OUTSIDE);
        }
    }

    private static void checkMark() {
        PianoJury x = new PianoJury();
        x.contest(3, 2);
        DUE.is("first mark", x.mark(1, 1, 2, 1), NONE);
        DUE.is("second mark", x.mark(1, 1, 2, 100), 1);
        DUE.is("no mark", x.mark(1, 1, 2, NONE), 100);
        DUE.is("no mark again", x.mark(1, 1, 2, NONE), NONE);
        DUE.is("mark again", x.mark(1, 1, 2, 40), NONE);
        DUE.is("another round", x.mark(0, 1, 2, 41), NONE);
        DUE.is("another juror", x.mark(1, 0, 2, 42), NONE);
        DUE.is("another player", x.mark(1, 1, 1, 43), NONE);
        DUE.is("it is still there", x.mark(1, 1, 2, 40), 40);
        DUE.is("the same mark", x.mark(1, 1, 2, 40), 40);
        x.pupil(1, 2, true);
        DUE.is("a pupil's mark is told too", x.mark(1, 1, 2, 39), 40);
    }

    /** "A MARK (1 to 100), or none": every one, and those beside them, which leave what was there. */
    private static void checkMarkEdges() {
        PianoJury x = new PianoJury();
        int was = NONE;
        for (int v = 1; v <= 100; v++) {
            DUE.is("mark " + v, x.mark(0, 0, 0, v), was);
            was = v;
        }
        int[] wrong = {0, -2, 101, -101, -102, 1000, Integer.MIN_VALUE, Integer.MAX_VALUE};
        for (int v : wrong) {
            DUE.is("mark " + v, x.mark(0, 0, 0, v), OUTSIDE);
            DUE.is("mark behind " + v, x.mark(0, 0, 0, 100), 100);
        }
        DUE.is("none", x.mark(0, 0, 0, NONE), 100);
        DUE.is("mark 0 where none is", x.mark(0, 0, 0, 0), OUTSIDE);
        DUE.is("none still", x.mark(0, 0, 0, NONE), NONE);
    }

    /** "or none (at first)", "or not (not, at first)": wherever a mark can stand, and each stands for itself. */
    private static void checkNothingAtFirst() {
        PianoJury marks = new PianoJury();
        PianoJury yeses = new PianoJury();
        PianoJury pupils = new PianoJury();
        marks.contest(10, 7);
        yeses.contest(10, 7);
        pupils.contest(10, 7);
        for (int j = 0; j < 7; j++) {
            for (int p = 0; p < 10; p++) {
                for (int round = 0; round < 3; round++) {
                    DUE.is("mark at first", marks.mark(round, j, p, 1 + (30 * round + 10 * j + p) % 100), NONE);
                    DUE.is("yes at first", yeses.yes(round, j, p, true), 0);
                }
                DUE.is("pupil at first", pupils.pupil(j, p, true), 0);
            }
        }
        for (int j = 0; j < 7; j++) {
            for (int p = 0; p < 10; p++) {
                for (int round = 0; round < 3; round++) {
                    DUE.is("its own mark", marks.mark(round, j, p, 1), 1 + (30 * round + 10 * j + p) % 100);
                    DUE.is("its own yes", yeses.yes(round, j, p, false), 1);
                }
                DUE.is("its own pupil", pupils.pupil(j, p, false), 1);
            }
        }
    }

    private static void checkYes() {
        PianoJury x = new PianoJury();
        x.contest(3, 2);
        DUE.is("not, where it was not", x.yes(2, 1, 2, false), 0);
        DUE.is("yes", x.yes(2, 1, 2, true), 0);
        DUE.is("yes again", x.yes(2, 1, 2, true), 1);
        DUE.is("times YES said", x.count(3), 1);
        DUE.is("other round", x.yes(1, 1, 2, true), 0);
        DUE.is("other juror", x.yes(2, 0, 2, true), 0);
        DUE.is("other player", x.yes(2, 1, 1, true), 0);
        DUE.is("not", x.yes(2, 1, 2, false), 1);
        DUE.is("not again", x.yes(2, 1, 2, false), 0);
        DUE.is("times YES said", x.count(3), 3);
        DUE.is("no mark is given by it", x.count(2), 0);
    }

    private static void checkPupil() {
        PianoJury x = new PianoJury();
        x.contest(3, 2);
        DUE.is("not, where it was not", x.pupil(1, 2, false), 0);
        DUE.is("pupil", x.pupil(1, 2, true), 0);
        DUE.is("pupil again", x.pupil(1, 2, true), 1);
        DUE.is("of the other juror", x.pupil(0, 2, true), 0);
        DUE.is("the other player", x.pupil(1, 0, true), 0);
        DUE.is("no more", x.pupil(1, 2, false), 1);
        DUE.is("no more again", x.pupil(1, 2, false), 0);
        DUE.is("PUPILS", x.count(4), 2);
    }

    private static void checkRule() {
        PianoJury x = new PianoJury();
        DUE.is("CUTS 0", x.rule(0, 0), 1);
        DUE.is("CUTS 2", x.rule(0, 2), 0);
        DUE.is("CUTS 1", x.rule(0, 1), 2);
        DUE.is("PULL 1", x.rule(1, 1), 10);
        DUE.is("PULL 50", x.rule(1, 50), 1);
        DUE.is("PULL 10", x.rule(1, 10), 50);
        DUE.is("CUTS are not PULL", x.rule(0, 1), 1);
    }

    /** "CUTS 0 to 2", "PULL 1 to 50": the first wrong ones leave what was there, in the score too. */
    private static void checkRuleEdges() {
        PianoJury x = new PianoJury();
        x.rule(0, 0);
        x.rule(1, 50);
        x.mark(0, 0, 0, 60);
        int[][] outside = {{0, -1}, {0, 3}, {1, 0}, {1, 51}, {1, -1}, {0, 50}, {0, 10}};
        for (int[] o : outside) {
            DUE.is("rule(" + o[0] + ", " + o[1] + ")", x.rule(o[0], o[1]), OUTSIDE);
        }
        DUE.is("CUTS are still", x.rule(0, 0), 0);
        DUE.is("PULL is still", x.rule(1, 50), 50);
        DUE.is("rule(2, 1)", x.rule(2, 1), UNKNOWN);
        DUE.is("rule(-1, 1)", x.rule(-1, 1), UNKNOWN);
        DUE.is("rule(2, 51), unknown ahead of outside", x.rule(2, 51), UNKNOWN);
    }
}
