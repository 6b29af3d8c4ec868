/**
 * Promises 7 to 13: score, beats, place, passed, differ, reach, sway, in ordinary contests. WayEdgesTest has what the
 * document says of their edges; what they refuse, RefusalsTest tries.
 */
public final class WaysTest {
    private static final int NONE = PianoJury.NONE;
    private static final int UNIT = 176400;
    private static final int MEAN = 0;
    private static final int CUT = 1;
    private static final int MIDDLE = 2;
    private static final int YES = 3;
    private static final int PAIRS = 4;
    private static final int PULLED = 5;
    private static final Due DUE = new Due("WaysTest");

    public static void main(String[] args) {
        checkMean();
        checkCut();
        checkMiddle();
        checkYes();
        checkPairs();
        checkPulled();
        checkWhatCounts();
        checkBeats();
        checkPlaceAndPassed();
        checkFullContest();
        checkDiffer();
        checkReach();
        checkReachByYes();
        checkSway();
        checkSwayByYes();
        DUE.end();
    }

    private static void checkMean() {
        DUE.is("mean of none", Given.single(0, 0).score(0, MEAN, 0), NONE);
        DUE.is("mean of 1", Given.single(1).score(0, MEAN, 0), UNIT);
        DUE.is("mean of 7, 8", Given.single(7, 0, 8).score(0, MEAN, 0), UNIT * 15 / 2);
        DUE.is("mean of seven", Given.single(1, 2, 3, 4, 5, 6, 8).score(0, MEAN, 0), UNIT / 7 * 29);
        DUE.is("mean of seven 100", Given.single(100, 100, 100, 100, 100, 100, 100).score(0, MEAN, 0), UNIT * 100);
    }

    private static void checkCut() {
        PianoJury five = Given.single(90, 20, 30, 40, 100);
        DUE.is("one cut of five", five.score(0, CUT, 0), UNIT * 160 / 3);
        five.rule(0, 2);
        DUE.is("two cut of five", five.score(0, CUT, 0), UNIT * 40);
        five.rule(0, 0);
        DUE.is("none cut of five", five.score(0, CUT, 0), UNIT * 56);
        PianoJury four = Given.single(10, 20, 30, 100);
        four.rule(0, 2);
        DUE.is("two cut of four would leave none", four.score(0, CUT, 0), UNIT * 40);
        four.rule(0, 1);
        DUE.is("one cut of four", four.score(0, CUT, 0), UNIT * 25);
        DUE.is("one cut of two would leave none", Given.single(10, 30).score(0, CUT, 0), UNIT * 20);
        DUE.is("one cut of three", Given.single(30, 10, 11).score(0, CUT, 0), UNIT * 11);
        DUE.is("one cut of one", Given.single(10).score(0, CUT, 0), UNIT * 10);
        DUE.is("equal marks are cut one by one", Given.single(50, 50, 50, 90).score(0, CUT, 0), UNIT * 50);
        DUE.is("cut of none", Given.single(0).score(0, CUT, 0), NONE);
    }

    private static void checkMiddle() {
        DUE.is("middle of one", Given.single(33).score(0, MIDDLE, 0), UNIT * 33);
        DUE.is("middle of two", Given.single(33, 90).score(0, MIDDLE, 0), UNIT / 2 * 123);
        DUE.is("middle of three", Given.single(99, 1, 2).score(0, MIDDLE, 0), UNIT * 2);
        DUE.is("middle of four", Given.single(99, 1, 50, 3).score(0, MIDDLE, 0), UNIT / 2 * 53);
        DUE.is("middle of seven", Given.single(7, 6, 5, 90, 91, 92, 93).score(0, MIDDLE, 0), UNIT * 90);
        DUE.is("middle of none", Given.single(0, 0).score(0, MIDDLE, 0), NONE);
    }

    private static void checkYes() {
        PianoJury x = Given.single(10, 20, 30, 0);
        DUE.is("nobody says yes", x.score(0, YES, 0), 0);
        x.yes(0, 1, 0, true);
        DUE.is("one of three", x.score(0, YES, 0), UNIT / 3);
        x.yes(0, 3, 0, true);
        DUE.is("a yes without a mark", x.score(0, YES, 0), UNIT / 3);
        x.yes(0, 2, 0, true);
        DUE.is("two of three", x.score(0, YES, 0), UNIT / 3 * 2);
        x.pupil(2, 0, true);
        DUE.is("a yes for a pupil", x.score(0, YES, 0), UNIT / 2);
        x.yes(1, 0, 0, true);
        DUE.is("a yes in another round", x.score(0, YES, 0), UNIT / 2);
        DUE.is("a yes, but no marks", x.score(1, YES, 0), NONE);
    }

    private static void checkPairs() {
        PianoJury x = Given.marked(new int[][] {{50, 50, 70, 0}, {60, 50, 0, 0}, {40, 50, 0, 0}});
        DUE.is("even with 1, beaten by 2, not with 3", x.score(0, PAIRS, 0), 1);
        DUE.is("beats two", x.score(0, PAIRS, 2), 4);
        DUE.is("no marks", x.score(0, PAIRS, 3), NONE);
        PianoJury apart = Given.marked(new int[][] {{50, 0}, {0, 90}});
        DUE.is("no juror marks both", apart.score(0, PAIRS, 0), 1);
        DUE.is("alone", Given.single(5).score(0, PAIRS, 0), 0);
        PianoJury first = Given.marked(new int[][] {{50, 40}, {50, 0}});
        DUE.is("the other is marked by juror 0 alone", first.score(0, PAIRS, 0), 2);
    }

    private static void checkPulled() {
        PianoJury x = Given.single(10, 50, 90);
        DUE.is("pulled to 40 and 60", x.score(0, PULLED, 0), UNIT * 50);
        PianoJury y = Given.single(10, 11, 90);
        DUE.is("mean 37, from 27 to 47", y.score(0, PULLED, 0), UNIT / 3 * (27 + 27 + 47));
        y.rule(1, 50);
        DUE.is("from -13 to 87", y.score(0, PULLED, 0), UNIT / 3 * (10 + 11 + 87));
        y.rule(1, 1);
        DUE.is("from 36 to 38", y.score(0, PULLED, 0), UNIT / 3 * (36 + 36 + 38));
        PianoJury z = Given.single(1, 100, 100);
        DUE.is("mean 67, from 57 to 77", z.score(0, PULLED, 0), UNIT / 3 * (57 + 77 + 77));
        PianoJury thirds = Given.single(1, 1, 99, 99, 99, 99, 99);
        DUE.is("a mean that is not whole", thirds.score(0, PULLED, 0), UNIT / 49 * (2 * (497 - 70) + 5 * (497 + 70)));
        DUE.is("pulled of one", Given.single(33).score(0, PULLED, 0), UNIT * 33);
        DUE.is("pulled of none", Given.single(0).score(0, PULLED, 0), NONE);
    }

    private static void checkWhatCounts() {
        PianoJury x = Given.marked(new int[][] {{10, 20}, {30, 60}});
        x.pupil(1, 0, true);
        DUE.is("the teacher is left out", x.score(0, MEAN, 0), UNIT * 10);
        DUE.is("middle without the teacher", x.score(0, MIDDLE, 0), UNIT * 10);
        DUE.is("the other player", x.score(0, MEAN, 1), UNIT * 40);
        DUE.is("by juror 0 alone", x.beats(0, 0, 1), -1);
        x.pupil(0, 0, true);
        DUE.is("no mark counts", x.score(0, PULLED, 0), NONE);
        DUE.is("pairs without it", x.score(0, PAIRS, 1), 0);
        x.pupil(0, 0, false);
        DUE.is("it counts again", x.score(0, MEAN, 0), UNIT * 10);
        DUE.is("another round", x.score(2, MEAN, 0), NONE);
    }

    private static void checkBeats() {
        PianoJury x = Given.marked(new int[][] {{50, 40, 0}, {60, 70, 0}, {80, 70, 0}, {10, 10, 99}});
        DUE.is("two to one", x.beats(0, 0, 1), 1);
        DUE.is("the other way", x.beats(0, 1, 0), -1);
        x.pupil(0, 1, true);
        DUE.is("one to one", x.beats(0, 0, 1), 0);
        DUE.is("by how many, not by how much", x.beats(0, 2, 0), 1);
        DUE.is("itself", x.beats(0, 0, 0), 0);
        DUE.is("another round", x.beats(1, 0, 1), 0);
    }

    private static void checkPlaceAndPassed() {
        PianoJury x = Given.marked(new int[][] {{70, 80, 70, 0, 60}});
        int[] places = {2, 1, 2, 5, 4};
        for (int p = 0; p < 5; p++) {
            DUE.is("place of " + p, x.place(0, MEAN, p), places[p]);
        }
        int[] passed = {2, 7, 7, 23, 23, 23, 23, 23, 23, 23};
        for (int k = 1; k <= 10; k++) {
            DUE.is("passed for " + k, x.passed(0, MEAN, k), passed[k - 1]);
        }
        DUE.is("all have no score", x.place(1, PULLED, 4), 1);
        DUE.is("nobody passes", x.passed(1, PULLED, 10), 0);
        DUE.is("score 0 is above none", x.place(0, YES, 0), 1);
        DUE.is("none is below 0", x.place(0, YES, 3), 5);
        DUE.is("score 0 passes", x.passed(0, YES, 1), 23);
    }

    /** Ten players, seven jurors, each of whom gives the later player more. */
    private static void checkFullContest() {
        int[][] rows = new int[7][10];
        for (int j = 0; j < 7; j++) {
            for (int p = 0; p < 10; p++) {
                rows[j][p] = 10 * p + j + 1;
            }
        }
        PianoJury x = Given.marked(rows);
        for (int p = 0; p < 10; p++) {
            DUE.is("mean of " + p, x.score(0, MEAN, p), UNIT * (10 * p + 4));
            DUE.is("pairs of " + p, x.score(0, PAIRS, p), 2 * p);
            for (int way = 0; way < 6; way++) {
                DUE.is("place of " + p + " by " + way, x.place(0, way, p), way == YES ? 1 : 10 - p);
            }
        }
        x.pupil(0, 9, true);
        x.pupil(6, 9, true);
        DUE.is("without jurors 0 and 6", x.beats(0, 9, 8), 1);
        for (int j = 1; j < 6; j++) {
            x.pupil(j, 9, true);
        }
        DUE.is("all teach 9", x.score(0, MEAN, 9), NONE);
        for (int p = 0; p < 9; p++) {
            DUE.is("mean of " + p + " still", x.score(0, MEAN, p), UNIT * (10 * p + 4));
            DUE.is("pairs of " + p + " still", x.score(0, PAIRS, p), 2 * p);
        }
        DUE.is("all but 9 pass", x.passed(0, MEAN, 10), 511);
    }

    private static void checkDiffer() {
        PianoJury x = Given.marked(new int[][] {{1, 40}, {60, 41}, {61, 42}});
        DUE.is("by mean", x.passed(0, MEAN, 1), 2);
        DUE.is("by middle", x.passed(0, MIDDLE, 1), 1);
        DUE.is("both differ", x.differ(0, MEAN, MIDDLE, 1), 2);
        DUE.is("the other way round", x.differ(0, MIDDLE, MEAN, 1), 2);
        DUE.is("for two all pass", x.differ(0, MEAN, MIDDLE, 2), 0);
        DUE.is("the same way", x.differ(0, MEAN, MEAN, 1), 0);
        DUE.is("yes has both", x.differ(0, MEAN, YES, 1), 1);
        DUE.is("another round", x.differ(1, MEAN, MIDDLE, 1), 0);
    }

    private static void checkReach() {
        PianoJury x = Given.marked(new int[][] {{50, 60, 70}, {50, 60, 70}});
        DUE.is("least with 100", x.reach(0, MEAN, 0, 0, 0), 1);
        DUE.is("greatest with 1", x.reach(0, MEAN, 0, 2, 1), 3);
        DUE.is("greatest of 0", x.reach(0, MEAN, 0, 0, 1), 3);
        DUE.is("pairs, even with both", x.reach(0, PAIRS, 0, 0, 0), 2);
        DUE.is("pairs, not below", x.reach(0, PAIRS, 0, 0, 1), 3);
        DUE.is("nothing has changed", x.score(0, MEAN, 0), UNIT * 50);
        x.mark(0, 0, 0, NONE);
        DUE.is("one without a mark", x.reach(0, MEAN, 0, 0, 0), 1);
        DUE.is("and still none", x.mark(0, 0, 0, NONE), NONE);
        PianoJury level = Given.marked(new int[][] {{50, 100}, {98, 98}});
        DUE.is("100 is enough", level.reach(0, MEAN, 0, 0, 0), 1);
        PianoJury tooLow = Given.marked(new int[][] {{50, 100}, {98, 99}});
        DUE.is("more than 100 were needed", tooLow.reach(0, MEAN, 0, 0, 0), 2);
        PianoJury low = Given.marked(new int[][] {{50, 1}, {5, 5}});
        DUE.is("less than 1 were needed", low.reach(0, MEAN, 0, 0, 1), 1);
        PianoJury lower = Given.marked(new int[][] {{50, 2}, {5, 5}});
        DUE.is("1 is enough", lower.reach(0, MEAN, 0, 0, 1), 2);
    }

    private static void checkReachByYes() {
        PianoJury x = Given.marked(new int[][] {{50, 60, 70}, {50, 60, 0}});
        x.yes(0, 0, 1, true);
        DUE.is("with a yes beside 1", x.reach(0, YES, 0, 0, 0), 1);
        DUE.is("without", x.reach(0, YES, 0, 0, 1), 2);
        DUE.is("1 without its yes", x.reach(0, YES, 0, 1, 1), 1);
        DUE.is("no mark, so no yes", x.reach(0, YES, 1, 2, 0), 2);
        DUE.is("yes stays", x.yes(0, 0, 1, true), 1);
        DUE.is("not stays", x.yes(0, 0, 0, false), 0);
    }

    private static void checkSway() {
        PianoJury x = Given.marked(new int[][] {{50, 60, 70}, {50, 60, 70}, {50, 60, 70}});
        DUE.is("1 up, 2 down by mean", x.sway(0, MEAN, 0, 1), 2);
        DUE.is("none by middle", x.sway(0, MIDDLE, 0, 1), 0);
        DUE.is("for three all pass", x.sway(0, MEAN, 0, 3), 0);
        DUE.is("0 up, 2 down", Given.marked(new int[][] {{50, 60, 70}}).sway(0, MEAN, 0, 1), 3);
        x.pupil(0, 1, true);
        DUE.is("a pupil does not count", x.sway(0, MEAN, 0, 1), 1);
        x.contest(2, 2);
        x.mark(0, 0, 0, 50);
        DUE.is("a mark withdrawn is no mark", x.sway(0, MEAN, 0, 2), 1);
        DUE.is("a first mark makes each pass", x.sway(0, MEAN, 1, 2), 1);
        DUE.is("a first mark of 100 and of 1", x.sway(0, MEAN, 1, 1), 1);
        DUE.is("nothing is marked by it", x.count(2), 1);
    }

    private static void checkSwayByYes() {
        PianoJury x = Given.marked(new int[][] {{50, 60, 70}, {50, 60, 0}});
        x.yes(0, 0, 1, true);
        x.yes(0, 1, 1, true);
        DUE.is("juror 0: 1 stays first alike", x.sway(0, YES, 0, 1), 1);
        DUE.is("juror 1 cannot move 2", x.sway(0, YES, 1, 1), 0);
        DUE.is("yes stays", x.count(3), 2);
    }
}
