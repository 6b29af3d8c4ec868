import java.util.Arrays;

/** Promises 7 to 13 where the document names an edge: how many marks count, what is empty, what is just enough. */
public final class WayEdgesTest {
    private static final int NONE = PianoJury.NONE;
    private static final int STATE = PianoJury.STATE;
    private static final int UNIT = 176400;
    private static final int MEAN = 0;
    private static final int CUT = 1;
    private static final int MIDDLE = 2;
    private static final int YES = 3;
    private static final int PAIRS = 4;
    private static final int PULLED = 5;
    private static final int WAYS = 6;
    private static final Due DUE = new Due("WayEdgesTest");

    public static void main(String[] args) {
        checkEachNumberOfMarks();
        checkNoMarkCounts();
        checkGreatestAndLeastScores();
        checkYesEdges();
        checkPairsEdges();
        checkPulledEdges();
        checkBeatsEdges();
        checkPlaceEdges();
        checkPassedEdges();
        checkDifferEdges();
        checkReachOfOneAndOfTen();
        checkReachJustEnough();
        checkReachJustEnoughByOtherWays();
        checkReachWithoutMark();
        checkReachOfPupils();
        checkSwayOfTen();
        checkSwayJustEnough();
        checkSwayByYes();
        checkSwayOfPupils();
        DUE.end();
    }

    /** Of seven jurors the last c ones give 1, 2, 4 and so on, but not in that order. */
    private static PianoJury powers(int c) {
        int[] given = new int[7];
        for (int i = 0; i < c; i++) {
            given[7 - c + i] = 1 << (i + c / 2 + 1) % c;
        }
        return Given.single(given);
    }

    /** "(CUTS 0 to 2; none, if not one would be left)", "the one in the middle counts twice, where c is odd". */
    private static void checkEachNumberOfMarks() {
        int[][] means = {{1, 1}, {3, 2}, {7, 3}, {15, 4}, {31, 5}, {63, 6}, {127, 7}};
        int[][] oneCut = {{1, 1}, {3, 2}, {2, 1}, {6, 2}, {14, 3}, {30, 4}, {62, 5}};
        int[][] twoCut = {{1, 1}, {3, 2}, {7, 3}, {15, 4}, {4, 1}, {12, 2}, {28, 3}};
        int[] middles = {2, 3, 4, 6, 8, 12, 16};
        for (int c = 1; c <= 7; c++) {
            PianoJury x = powers(c);
            DUE.is("mean of " + c, x.score(0, MEAN, 0), UNIT * means[c - 1][0] / means[c - 1][1]);
            DUE.is("one cut of " + c, x.score(0, CUT, 0), UNIT * oneCut[c - 1][0] / oneCut[c - 1][1]);
            x.rule(0, 2);
            DUE.is("two cut of " + c, x.score(0, CUT, 0), UNIT * twoCut[c - 1][0] / twoCut[c - 1][1]);
            x.rule(0, 0);
            DUE.is("none cut of " + c, x.score(0, CUT, 0), UNIT * means[c - 1][0] / means[c - 1][1]);
            DUE.is("middle of " + c, x.score(0, MIDDLE, 0), 88200 * middles[c - 1]);
        }
    }

    /** "or NONE, if no MARKS of it COUNT", in each way. */
    private static void checkNoMarkCounts() {
        for (int way = 0; way < WAYS; way++) {
            String by = " by way " + way;
            PianoJury x = Given.marked(new int[][] {{0, 60}, {0, 70}});
            x.yes(0, 0, 0, true);
            DUE.is("no mark, though a yes" + by, x.score(0, way, 0), NONE);
            x.mark(1, 0, 0, 50);
            DUE.is("a mark in another round" + by, x.score(0, way, 0), NONE);
            x.mark(0, 1, 0, 50);
            DUE.is("a mark" + by, x.score(0, way, 0) >= 0 ? 1 : 0, 1);
            x.pupil(1, 0, true);
            DUE.is("its teacher's alone" + by, x.score(0, way, 0), NONE);
            DUE.is("another juror's in round 1" + by, x.score(1, way, 0) >= 0 ? 1 : 0, 1);
            x.pupil(1, 0, false);
            DUE.is("no teacher any more" + by, x.score(0, way, 0) >= 0 ? 1 : 0, 1);
            x.mark(0, 1, 0, NONE);
            DUE.is("the mark taken back" + by, x.score(0, way, 0), NONE);
            DUE.is("nothing in round 2" + by, x.score(2, way, 0), NONE);
        }
    }

    private static void checkGreatestAndLeastScores() {
        for (int way : new int[] {MEAN, CUT, MIDDLE, PULLED}) {
            PianoJury most = Given.single(100, 100, 100, 100, 100, 100, 100);
            PianoJury least = Given.single(1, 1, 1, 1, 1, 1, 1);
            DUE.is("the greatest by way " + way, most.score(0, way, 0), UNIT * 100);
            DUE.is("the least by way " + way, least.score(0, way, 0), UNIT);
        }
    }

    private static void checkYesEdges() {
        for (int c = 1; c <= 7; c++) {
            PianoJury x = powers(c);
            DUE.is("nobody of " + c, x.score(0, YES, 0), 0);
            x.yes(0, 6, 0, true);
            DUE.is("one of " + c, x.score(0, YES, 0), UNIT / c);
            for (int j = 0; j < 7; j++) {
                x.yes(0, j, 0, true);
            }
            DUE.is("all, the ones without a mark do not count", x.score(0, YES, 0), UNIT);
            x.pupil(6, 0, true);
            DUE.is("all but the teacher", x.score(0, YES, 0), c == 1 ? NONE : UNIT);
        }
    }

    /** "the ones without any MARK that COUNTS left out", and all that ten players can win or share. */
    private static void checkPairsEdges() {
        PianoJury same = Given.ranked(5, 5, 5, 5, 5, 5, 5, 5, 5, 5);
        DUE.is("even with nine", same.score(0, PAIRS, 9), 9);
        same.mark(0, 0, 9, 6);
        DUE.is("beats nine", same.score(0, PAIRS, 9), 18);
        DUE.is("even with eight", same.score(0, PAIRS, 0), 8);
        same.mark(0, 0, 9, 4);
        DUE.is("beaten by nine", same.score(0, PAIRS, 9), 0);
        DUE.is("beats one, even with eight", same.score(0, PAIRS, 0), 10);
        same.mark(0, 0, 9, NONE);
        DUE.is("one is left out", same.score(0, PAIRS, 0), 8);
        same.pupil(0, 8, true);
        DUE.is("a pupil of the only juror is left out", same.score(0, PAIRS, 0), 7);
        DUE.is("alone in a round", Given.ranked(0, 5, 0).score(0, PAIRS, 1), 0);
        PianoJury apart = Given.marked(new int[][] {{50, 0, 0}, {0, 90, 0}, {0, 0, 1}});
        for (int p = 0; p < 3; p++) {
            DUE.is("no juror of both", apart.score(0, PAIRS, p), 2);
        }
    }

    private static int pulled(int pull, int... given) {
        PianoJury x = Given.single(given);
        x.rule(1, pull);
        return x.score(0, PULLED, 0);
    }

    /** "not below S by c less PULL and not above S by c and PULL (PULL 1 to 50)": marks on the bounds and beside. */
    private static void checkPulledEdges() {
        DUE.is("just not above 60", pulled(10, 45, 60, 45), UNIT * 50);
        DUE.is("61 is 60", pulled(10, 45, 44, 61), UNIT / 3 * 149);
        DUE.is("just not below 40", pulled(10, 40, 55, 55), UNIT * 50);
        DUE.is("39 is 40", pulled(10, 55, 56, 39), UNIT / 3 * 151);
        DUE.is("PULL 1, on the bounds", pulled(1, 49, 50, 51), UNIT * 50);
        DUE.is("PULL 1, 48 is 49", pulled(1, 48, 51, 51), UNIT / 3 * 151);
        DUE.is("PULL 1, 52 is 51", pulled(1, 52, 49, 49), UNIT / 3 * 149);
        DUE.is("PULL 50, on the bound", pulled(50, 100, 100, 25, 75, 75), UNIT * 75);
        DUE.is("PULL 50, 24 is 25", pulled(50, 100, 100, 24, 75, 76), UNIT / 5 * 376);
        DUE.is("PULL 50, 98 is 97", pulled(50, 31, 30, 98, 29, 47), UNIT / 5 * 234);
        DUE.is("a bound below 1", pulled(50, 1, 1, 100), UNIT / 3 * 86);
        DUE.is("a bound above 100", pulled(50, 100, 100, 1), UNIT / 3 * 217);
        for (int c = 1; c <= 7; c++) {
            int[] given = new int[c];
            Arrays.fill(given, 37);
            given[c - 1] = 44;
            DUE.is("none is far of " + c, pulled(10, given), UNIT / c * (37 * c + 7));
        }
        DUE.is("two of seven, in sevenths", pulled(10, 8, 1, 1, 99, 1, 1, 99), UNIT / 49 * (5 * 140 + 2 * 280));
    }

    /** "more of the JURORS whose MARKS of both COUNT", "EVEN: neither does". */
    private static void checkBeatsEdges() {
        PianoJury x = Given.marked(new int[][] {{2, 1}, {1, 100}, {50, 50}});
        DUE.is("one to one", x.beats(0, 0, 1), 0);
        DUE.is("one to one, the other way", x.beats(0, 1, 0), 0);
        x.mark(0, 2, 0, 51);
        DUE.is("by one more in one mark", x.beats(0, 0, 1), 1);
        DUE.is("beaten", x.beats(0, 1, 0), -1);
        x.pupil(2, 1, true);
        DUE.is("a teacher of the other counts for neither", x.beats(0, 0, 1), 0);
        x.pupil(0, 0, true);
        DUE.is("a teacher of the first counts for neither", x.beats(0, 0, 1), -1);
        x.pupil(1, 1, true);
        DUE.is("no juror of both", x.beats(0, 0, 1), 0);
        PianoJury none = Given.marked(new int[][] {{0, 100}});
        DUE.is("no mark", none.beats(0, 0, 1), 0);
        DUE.is("itself without a mark", none.beats(0, 0, 0), 0);
        DUE.is("itself", none.beats(0, 1, 1), 0);
        PianoJury seven = Given.marked(new int[][] {{2, 1}, {2, 1}, {2, 1}, {2, 1}, {2, 1}, {2, 1}, {2, 1}});
        DUE.is("seven to none", seven.beats(0, 0, 1), 1);
        DUE.is("none to seven", seven.beats(0, 1, 0), -1);
        DUE.is("another round", seven.beats(2, 0, 1), 0);
        seven.mark(2, 6, 1, 5);
        seven.mark(2, 6, 0, 4);
        DUE.is("the last round has its own", seven.beats(2, 0, 1), -1);
    }

    /** "how many PLAYERS have a greater SCORE, and 1 (NONE is below all)". */
    private static void checkPlaceEdges() {
        for (int way = 0; way < WAYS; way++) {
            String by = " by way " + way;
            DUE.is("a new object" + by, new PianoJury().place(2, way, 0), 1);
            PianoJury same = Given.ranked(5, 5, 5, 5, 5, 5, 5, 5, 5, 0);
            DUE.is("nine alike" + by, same.place(0, way, 8), 1);
            DUE.is("none behind nine" + by, same.place(0, way, 9), 10);
            DUE.is("none of ten" + by, same.place(1, way, 9), 1);
        }
        PianoJury x = Given.ranked(10, 9, 8, 7, 6, 5, 4, 3, 2, 1);
        for (int p = 0; p < 10; p++) {
            DUE.is("place of " + p, x.place(0, MEAN, p), p + 1);
        }
        DUE.is("two first, the next one is third", Given.ranked(9, 8, 9).place(0, MEAN, 1), 3);
        PianoJury zero = Given.ranked(50, 0);
        DUE.is("score 0 is above none", zero.place(0, PAIRS, 0), 1);
        DUE.is("none is below 0", zero.place(0, PAIRS, 1), 2);
    }

    /** "all PLAYERS with a SCORE and a PLACE of k at most", k 1 to 10. */
    private static void checkPassedEdges() {
        PianoJury x = Given.ranked(1, 2, 3, 4, 5, 6, 7, 8, 9, 10);
        for (int k = 1; k <= 10; k++) {
            DUE.is("the last " + k + " pass", x.passed(0, MEAN, k), 1023 & ~((1 << 10 - k) - 1));
        }
        PianoJury one = new PianoJury();
        PianoJury two = Given.ranked(7, 9, 7);
        for (int k = 1; k <= 10; k++) {
            DUE.is("nobody has a score", one.passed(0, MEAN, k), 0);
            DUE.is("two on place 2", two.passed(0, MEAN, k), k == 1 ? 2 : 7);
        }
        one.mark(0, 0, 0, 1);
        DUE.is("the only one", one.passed(0, MEAN, 1), 1);
        DUE.is("the only one for ten", one.passed(0, MEAN, 10), 1);
        DUE.is("a place of k, but no score", Given.ranked(50, 0).passed(0, MEAN, 2), 1);
        DUE.is("place 1, but no score", Given.ranked(50, 60).passed(1, PAIRS, 1), 0);
        DUE.is("score 0 passes", Given.ranked(50, 0).passed(0, PAIRS, 1), 1);
    }

    private static void checkDifferEdges() {
        PianoJury x = Given.ranked(10, 9, 8, 7, 6, 5, 4, 3, 2, 1);
        DUE.is("nine more by yes", x.differ(0, MEAN, YES, 1), 9);
        DUE.is("for nine one more", x.differ(0, YES, MEAN, 9), 1);
        DUE.is("for ten none", x.differ(0, MEAN, YES, 10), 0);
        for (int p = 5; p < 10; p++) {
            x.yes(0, 0, p, true);
        }
        DUE.is("five and the other five", x.differ(0, MEAN, YES, 5), 10);
        DUE.is("the same five are not there", x.differ(0, MEAN, PAIRS, 5), 0);
        for (int way = 0; way < WAYS; way++) {
            DUE.is("a way and itself", x.differ(0, way, way, 5), 0);
            DUE.is("nobody has a score", x.differ(2, MEAN, way, 1), 0);
        }
    }

    /** Alone a player is first whatever is done; one juror alone makes each of ten first or last. */
    private static void checkReachOfOneAndOfTen() {
        PianoJury x = Given.ranked(11, 22, 33, 44, 55, 66, 77, 88, 99, 98);
        for (int way = 0; way < WAYS; way++) {
            for (int side = 0; side < 2; side++) {
                String by = " by way " + way + ", side " + side;
                DUE.is("a new object" + by, new PianoJury().reach(2, way, 0, 0, side), 1);
                DUE.is("the only one" + by, Given.single(50).reach(0, way, 0, 0, side), 1);
                for (int p = 0; p < 10; p++) {
                    DUE.is(p + " of ten" + by, x.reach(0, way, 0, p, side), way == YES || side == 0 ? 1 : 10);
                }
            }
        }
        for (int p = 0; p < 9; p++) {
            x.yes(0, 0, p, true);
        }
        DUE.is("with a yes first with all", x.reach(0, YES, 0, 9, 0), 1);
        DUE.is("without behind all", x.reach(0, YES, 0, 9, 1), 10);
    }

    private static void reaches(String name, PianoJury x, int way, int least, int greatest) {
        DUE.is(name + ", least", x.reach(0, way, 0, 0, 0), least);
        DUE.is(name + ", greatest", x.reach(0, way, 0, 0, 1), greatest);
    }

    /** "any from 1 to 100": what 100 and 1 just do, 101 and 0 would do, 99 and 2 would not. */
    private static void checkReachJustEnough() {
        reaches("100 and 1 are enough", Given.marked(new int[][] {{50, 100, 2}, {98, 98, 98}}), MEAN, 1, 3);
        reaches("100 is not enough", Given.marked(new int[][] {{50, 100, 2}, {98, 99, 98}}), MEAN, 2, 3);
        reaches("1 is not enough", Given.marked(new int[][] {{50, 100, 1}, {98, 98, 98}}), MEAN, 1, 2);
        reaches("pairs, 100 is enough", Given.ranked(50, 100, 100), PAIRS, 1, 3);
        reaches("pairs, 1 is enough", Given.ranked(50, 2, 2), PAIRS, 1, 3);
        reaches("pairs, 1 is not enough", Given.ranked(50, 1, 1), PAIRS, 1, 1);
    }

    /** Player 0 gets just the scores of the other two from what juror 0 may give it, or they are one mark beyond. */
    private static void checkReachJustEnoughByOtherWays() {
        int[][] cut = {{9, 70, 60}, {50, 70, 60}, {60, 70, 60}, {70, 70, 60}, {80, 70, 60}};
        reaches("60 to 70 by four others", Given.marked(cut), CUT, 1, 2);
        int[][] beyondCut = {{9, 71, 61}, {50, 71, 61}, {60, 71, 61}, {70, 71, 61}, {80, 71, 61}};
        reaches("60 to 70 are not 61 and 71", Given.marked(beyondCut), CUT, 2, 3);
        reaches("50 to 70 by two others", Given.marked(new int[][] {{9, 70, 50}, {70, 70, 50}, {50, 70, 50}}),
            MIDDLE, 1, 2);
        reaches("50 to 70 are not 51 and 71", Given.marked(new int[][] {{9, 71, 51}, {70, 71, 51}, {50, 71, 51}}),
            MIDDLE, 2, 3);
        reaches("37 to 63 and a third, pulled", Given.marked(new int[][] {{9, 63, 37}, {50, 63, 37}, {50, 63, 37}}),
            PULLED, 1, 2);
        reaches("they are not 38 and 64", Given.marked(new int[][] {{9, 64, 38}, {50, 64, 38}, {50, 64, 38}}),
            PULLED, 2, 3);
    }

    /** A juror who has not marked the player could; a YES without a mark moves nobody. */
    private static void checkReachWithoutMark() {
        PianoJury x = Given.marked(new int[][] {{0, 60, 70}, {0, 60, 70}});
        reaches("the first mark of it", x, MEAN, 1, 3);
        reaches("no mark, so no yes", x, YES, 3, 3);
        x.mark(0, 1, 0, 65);
        reaches("one mark beside 65", x, MEAN, 1, 3);
        reaches("no mark of that juror", x, YES, 1, 1);
        x.yes(0, 1, 1, true);
        reaches("no mark of that juror, so still behind", x, YES, 2, 2);
        DUE.is("the marks are as they were", x.count(2), 5);
        reaches("nobody else has one", Given.marked(new int[][] {{0, 0, 0}}), PULLED, 1, 1);
    }

    /** "STATE: p is j's PUPIL": by every way, for that juror and that player alone. */
    private static void checkReachOfPupils() {
        PianoJury x = Given.marked(new int[][] {{50, 60}, {50, 60}});
        x.pupil(0, 1, true);
        for (int way = 0; way < WAYS; way++) {
            DUE.is("its own pupil", x.reach(0, way, 0, 1, 0), STATE);
            DUE.is("its own pupil in another round", x.reach(2, way, 0, 1, 1), STATE);
            DUE.is("another juror's pupil", x.reach(0, way, 1, 1, 0), 1);
            DUE.is("another player, beaten by juror 1 alone in pairs", x.reach(0, way, 0, 0, 0), way == PAIRS ? 2 : 1);
        }
        x.pupil(0, 1, false);
        DUE.is("no pupil any more", x.reach(0, MEAN, 0, 1, 1), 2);
    }

    private static void checkSwayOfTen() {
        PianoJury x = Given.ranked(11, 22, 33, 44, 55, 66, 77, 88, 99, 98);
        for (int k = 1; k <= 10; k++) {
            for (int way : new int[] {MEAN, CUT, MIDDLE, PAIRS, PULLED}) {
                DUE.is("the only juror, way " + way + ", for " + k, x.sway(0, way, 0, k), k < 10 ? 10 : 0);
            }
            DUE.is("with a yes all are first alike", x.sway(0, YES, 0, k), 0);
            DUE.is("all without a mark", x.sway(1, MEAN, 0, k), 10);
        }
        PianoJury one = Given.single(50);
        DUE.is("the only one passes", one.sway(0, MEAN, 0, 1), 0);
    }

    /** "do not, or not PASS that do", by a MARK from 1 to 100. */
    private static void checkSwayJustEnough() {
        DUE.is("100 is enough, 1 is", Given.marked(new int[][] {{50, 100}, {98, 98}}).sway(0, MEAN, 0, 1), 2);
        DUE.is("100 is not enough", Given.marked(new int[][] {{50, 100}, {98, 99}}).sway(0, MEAN, 0, 1), 1);
        DUE.is("1 is not enough", Given.marked(new int[][] {{50, 1}, {5, 5}}).sway(0, MEAN, 0, 1), 1);
        DUE.is("1 is enough", Given.marked(new int[][] {{50, 2}, {5, 5}}).sway(0, MEAN, 0, 1), 2);
        PianoJury apart = Given.marked(new int[][] {{50, 99}, {2, 99}, {3, 99}});
        DUE.is("neither, by the middle", apart.sway(0, MIDDLE, 0, 1), 0);
        PianoJury unmarked = Given.marked(new int[][] {{0, 60}, {0, 60}});
        DUE.is("a first mark for two makes one pass", unmarked.sway(0, MEAN, 0, 2), 1);
        DUE.is("a first mark for one makes one pass", unmarked.sway(0, MEAN, 0, 1), 1);
    }

    /** "WAY 3: by saying YES, or not". */
    private static void checkSwayByYes() {
        PianoJury x = Given.marked(new int[][] {{50, 60, 0}});
        DUE.is("nobody has a yes", x.sway(0, YES, 0, 1), 0);
        x.yes(0, 0, 1, true);
        DUE.is("the one without could pass", x.sway(0, YES, 0, 1), 1);
        x.yes(0, 0, 0, true);
        DUE.is("each of two could not pass", x.sway(0, YES, 0, 1), 2);
        DUE.is("for two both pass", x.sway(0, YES, 0, 2), 0);
        x.yes(0, 0, 2, true);
        DUE.is("a yes without a mark", x.sway(0, YES, 0, 3), 0);
        DUE.is("no marks at all", x.sway(1, YES, 0, 1), 0);
    }

    /** "PUPILS do not count". */
    private static void checkSwayOfPupils() {
        PianoJury x = Given.marked(new int[][] {{50, 60, 70}, {50, 60, 70}});
        DUE.is("all three", x.sway(0, MEAN, 0, 1), 3);
        x.pupil(0, 2, true);
        DUE.is("a pupil of its own", x.sway(0, MEAN, 0, 1), 2);
        DUE.is("a pupil of the other", x.sway(0, MEAN, 1, 1), 3);
        x.pupil(0, 0, true);
        x.pupil(0, 1, true);
        DUE.is("all are its pupils", x.sway(0, MEAN, 0, 1), 0);
        DUE.is("all are its pupils, by yes", x.sway(0, YES, 0, 1), 0);
        DUE.is("without a mark in another round", x.sway(1, MEAN, 0, 1), 0);
        x.pupil(0, 1, false);
        DUE.is("one is no more", x.sway(1, MEAN, 0, 1), 1);
    }
}
