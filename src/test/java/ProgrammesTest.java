/**
 * Promises 20 to 25: work, programme, plan, chosen, heard, drawn. What they refuse by their numbers alone,
 * RefusalsTest tries.
 */
public final class ProgrammesTest {
    private static final int NONE = PianoJury.NONE;
    private static final int UNKNOWN = PianoJury.UNKNOWN;
    private static final int OUTSIDE = PianoJury.OUTSIDE;
    private static final int FULL = PianoJury.FULL;
    private static final Due DUE = new Due("ProgrammesTest");

    public static void main(String[] args) {
        checkWork();
        checkWorkEdges();
        checkProgramme();
        checkProgrammeFull();
        checkProgrammeEdges();
        checkMinutes();
        checkPlanEdges();
        checkFirstPlan();
        checkTimes();
        checkTimesOfTen();
        checkNoPlan();
        checkNoProgrammes();
        checkLatestPlan();
        checkPlanRefused();
        checkHardestPlan();
        checkDrawn();
        checkDrawnEdges();
        checkDrawnInOrder();
        DUE.end();
    }

    private static PianoJury players(int n) {
        PianoJury x = new PianoJury();
        x.contest(n, 1);
        return x;
    }

    private static void checkWork() {
        PianoJury x = players(1);
        DUE.is("work(0, 1)", x.work(0, 1), 10);
        DUE.is("work(0, 60)", x.work(0, 60), 1);
        DUE.is("work(11, 5)", x.work(11, 5), 10);
        DUE.is("work(0, 60) again", x.work(0, 60), 60);
    }

    private static void checkProgramme() {
        PianoJury x = players(2);
        DUE.is("first", x.programme(1, 1), 1);
        DUE.is("second", x.programme(1, 4095), 2);
        DUE.is("the same once more", x.programme(1, 4095), 3);
        DUE.is("the other player's first", x.programme(0, 2), 1);
        DUE.is("PROGRAMMES", x.count(5), 4);
    }

    private static void checkMinutes() {
        PianoJury x = players(1);
        x.programme(0, 0b11);
        x.work(0, 7);
        x.work(1, 13);
        DUE.is("plan(20, 20)", x.plan(20, 20, 1), 1);
        DUE.is("plan(21, 720)", x.plan(21, 720, 1), 0);
        DUE.is("plan(0, 19)", x.plan(0, 19, 1), 0);
        DUE.is("plan(0, 720)", x.plan(0, 720, 1), 1);
        DUE.is("plan(0, 0)", x.plan(0, 0, 1), 0);
        PianoJury all = players(1);
        all.programme(0, 4095);
        for (int w = 0; w < 12; w++) {
            all.work(w, 60);
        }
        DUE.is("plan(720, 720)", all.plan(720, 720, 1), 1);
        PianoJury each = players(2);
        each.programme(0, 1);
        each.programme(1, 2);
        DUE.is("minutes are each player's own", each.plan(10, 10, 1), 1);
    }

    private static void checkFirstPlan() {
        PianoJury x = players(3);
        x.programme(0, 0b0001);
        x.programme(0, 0b0010);
        x.programme(1, 0b0001);
        x.programme(1, 0b0100);
        x.programme(2, 0b0100);
        x.programme(2, 0b1000);
        DUE.is("plan", x.plan(0, 720, 1), 1);
        DUE.is("player 0 has its first", x.chosen(0), 0);
        DUE.is("player 1 has its second", x.chosen(1), 1);
        DUE.is("player 2 has its second", x.chosen(2), 1);
        DUE.is("heard(0)", x.heard(0), 1);
        DUE.is("heard(1)", x.heard(1), 0);
        DUE.is("heard(2)", x.heard(2), 1);
        DUE.is("heard(3)", x.heard(3), 1);
        PianoJury back = players(2);
        back.programme(0, 0b01);
        back.programme(0, 0b10);
        back.programme(1, 0b01);
        DUE.is("plan that goes back", back.plan(0, 720, 1), 1);
        DUE.is("player 0 must take its second", back.chosen(0), 1);
        DUE.is("player 1", back.chosen(1), 0);
    }

    private static void checkTimes() {
        for (int times = 1; times <= 3; times++) {
            PianoJury x = players(times + 1);
            for (int p = 0; p <= times; p++) {
                x.programme(p, 0b100);
            }
            DUE.is("one too many for " + times, x.plan(0, 720, times), 0);
            x.programme(times, 0b1000);
            DUE.is("just " + times, x.plan(0, 720, times), 1);
            DUE.is("heard(2)", x.heard(2), times);
            DUE.is("the one behind", x.chosen(times), 1);
        }
    }

    private static void checkNoPlan() {
        PianoJury x = players(2);
        x.programme(0, 1);
        DUE.is("one has no programme", x.plan(0, 720, 3), 0);
        DUE.is("so the other has none chosen", x.chosen(0), NONE);
        x.programme(1, 2);
        DUE.is("both have one", x.plan(0, 720, 3), 1);
        DUE.is("heard(1)", x.heard(1), 1);
        DUE.is("none that long", x.plan(11, 720, 3), 0);
        DUE.is("what was made is gone", x.chosen(1), NONE);
        DUE.is("nothing is heard", x.heard(1), 0);
    }

    private static void checkLatestPlan() {
        PianoJury x = players(1);
        x.programme(0, 0b11);
        x.plan(0, 720, 1);
        x.work(0, 60);
        x.programme(0, 0b100);
        DUE.is("later calls leave it", x.chosen(0), 0);
        DUE.is("heard(0)", x.heard(0), 1);
        DUE.is("heard(2)", x.heard(2), 0);
        DUE.is("plan(0, 10, 1)", x.plan(0, 10, 1), 1);
        DUE.is("the shorter one", x.chosen(0), 1);
        DUE.is("heard(2)", x.heard(2), 1);
    }

    /** Nine players choose freely among three, and only then the last one finds its work taken. */
    private static void checkHardestPlan() {
        PianoJury x = players(10);
        for (int p = 0; p < 9; p++) {
            int works = p < 3 ? 1 : 0;
            x.programme(p, works | 2 << p);
            x.programme(p, works | 2 << p);
            x.programme(p, works | 2 << p);
        }
        x.programme(9, 1);
        DUE.is("plan(0, 720, 3)", x.plan(0, 720, 3), 0);
        x.programme(9, 2048);
        x.programme(9, 1);
        DUE.is("plan with another work", x.plan(0, 720, 3), 1);
        DUE.is("the first is free", x.chosen(0), 0);
        DUE.is("the last is not", x.chosen(9), 1);
        DUE.is("heard(0)", x.heard(0), 3);
    }

    private static void checkDrawn() {
        int[][] orders = {{0, 1, 2}, {0, 2, 1}, {1, 0, 2}, {1, 2, 0}, {2, 0, 1}, {2, 1, 0}};
        PianoJury x = players(3);
        for (int lot = 0; lot < 6; lot++) {
            for (int i = 0; i < 3; i++) {
                DUE.is("drawn(" + lot + ", " + i + ")", x.drawn(lot, i), orders[lot][i]);
            }
        }
        DUE.is("one player", players(1).drawn(0, 0), 0);
        PianoJury ten = players(10);
        for (int i = 0; i < 10; i++) {
            DUE.is("first order", ten.drawn(0, i), i);
            DUE.is("last order", ten.drawn(3628799, i), 9 - i);
        }
    }

    /** "MINUTES (1 to 60)" of each of WORKS 0 to 11: the first wrong ones leave what was there. */
    private static void checkWorkEdges() {
        PianoJury x = players(1);
        for (int w = 0; w < 12; w++) {
            DUE.is("the least", x.work(w, 1), 10);
            DUE.is("0 minutes", x.work(w, 0), OUTSIDE);
            DUE.is("the most", x.work(w, 60), 1);
            DUE.is("61 minutes", x.work(w, 61), OUTSIDE);
            DUE.is("NONE is none", x.work(w, NONE), OUTSIDE);
            DUE.is("its own minutes", x.work(w, w + 1), 60);
        }
        for (int w = 0; w < 12; w++) {
            x.contest(1, 1);
            x.programme(0, 1 << w);
            DUE.is("work " + w + " takes no more", x.plan(w + 2, 720, 1), 0);
            DUE.is("work " + w + " takes no less", x.plan(0, w, 1), 0);
            DUE.is("work " + w + " takes so long", x.plan(w + 1, w + 1, 1), 1);
        }
    }

    private static PianoJury twoOfThree() {
        PianoJury x = players(2);
        x.programme(1, 1);
        x.programme(1, 2);
        return x;
    }

    private static PianoJury three() {
        PianoJury x = twoOfThree();
        x.programme(1, 4);
        return x;
    }

    /** "up to 3 PROGRAMMES", "FULL"; "of several the first as told": UNKNOWN, OUTSIDE, FULL. */
    private static void checkProgrammeFull() {
        DUE.is("the third", twoOfThree().programme(1, 4), 3);
        DUE.leaves("a fourth", ProgrammesTest::three, x -> x.programme(1, 8), FULL);
        DUE.leaves("a fourth, there already", ProgrammesTest::three, x -> x.programme(1, 4), FULL);
        DUE.leaves("outside ahead of full", ProgrammesTest::three, x -> x.programme(1, 0), OUTSIDE);
        DUE.leaves("outside ahead of full, 4096", ProgrammesTest::three, x -> x.programme(1, 4096), OUTSIDE);
        DUE.leaves("unknown ahead of outside", ProgrammesTest::three, x -> x.programme(2, 0), UNKNOWN);
        DUE.leaves("unknown though another is full", ProgrammesTest::three, x -> x.programme(-1, 1), UNKNOWN);
        DUE.is("another player is not full", three().programme(0, 1), 1);
        PianoJury x = three();
        x.contest(2, 1);
        DUE.is("a new contest is not full", x.programme(1, 1), 1);
        PianoJury all = players(10);
        for (int p = 0; p < 10; p++) {
            for (int i = 1; i <= 3; i++) {
                DUE.is("programme " + i + " of " + p, all.programme(p, 4095), i);
            }
            DUE.is("a fourth of " + p, all.programme(p, 4095), FULL);
        }
        DUE.is("PROGRAMMES of all", all.count(5), 30);
    }

    /** "works is not 1 to 4095". */
    private static void checkProgrammeEdges() {
        for (int works : new int[] {0, -1, 4096, 8191, Integer.MIN_VALUE, Integer.MAX_VALUE}) {
            DUE.leaves("works " + works, ProgrammesTest::twoOfThree, x -> x.programme(1, works), OUTSIDE);
        }
        PianoJury x = players(1);
        DUE.is("the least", x.programme(0, 1), 1);
        DUE.is("the most", x.programme(0, 4095), 2);
        x.plan(120, 120, 1);
        DUE.is("the most has all", x.chosen(0), 1);
        DUE.is("work 0 is heard", x.heard(0), 1);
        DUE.is("work 11 is heard", x.heard(11), 1);
        x.plan(10, 10, 1);
        DUE.is("the least has one", x.chosen(0), 0);
        DUE.is("work 0 is heard alone", x.heard(0), 1);
        DUE.is("work 11 is not", x.heard(11), 0);
    }

    /** "with MINUTES together from a least to a most": on both bounds and beside them, for each player. */
    private static void checkPlanEdges() {
        PianoJury x = players(2);
        x.programme(0, 0b0011);
        x.programme(1, 0b1100);
        x.work(0, 14);
        x.work(3, 18);
        DUE.is("24 and 28", x.plan(24, 28, 1), 1);
        DUE.is("24 is too short", x.plan(25, 28, 1), 0);
        DUE.is("28 is too long", x.plan(24, 27, 1), 0);
        DUE.is("the widest", x.plan(0, 720, 1), 1);
        DUE.is("nothing is so short", x.plan(0, 0, 1), 0);
        DUE.is("nothing is so long", x.plan(720, 720, 1), 0);
        PianoJury one = players(1);
        one.programme(0, 1);
        one.work(0, 1);
        DUE.is("the shortest", one.plan(1, 1, 1), 1);
        DUE.is("shorter than the shortest", one.plan(0, 0, 3), 0);
    }

    /** "OUTSIDE: least, most (below least, too), times": what was planned stands. */
    private static void checkPlanRefused() {
        int[][] wrong = {{-1, 5, 1}, {721, 721, 1}, {0, 721, 1}, {0, -1, 1}, {-1, -1, 1}, {5, 4, 1}, {720, 719, 1},
            {0, 9, 0}, {0, 9, 4}, {0, 9, -1}, {Integer.MIN_VALUE, Integer.MAX_VALUE, 2}};
        for (int[] w : wrong) {
            String call = "plan(" + w[0] + ", " + w[1] + ", " + w[2] + ")";
            PianoJury x = players(1);
            x.programme(0, 1);
            x.programme(0, 2);
            x.work(0, 11);
            x.plan(10, 10, 1);
            DUE.is(call, x.plan(w[0], w[1], w[2]), OUTSIDE);
            DUE.is("chosen behind " + call, x.chosen(0), 1);
            DUE.is("heard behind " + call, x.heard(1), 1);
        }
    }

    /** "no WORK is heard more than a told number of TIMES": by up to ten players, one of them alone or all together. */
    private static void checkTimesOfTen() {
        for (int times = 1; times <= 3; times++) {
            PianoJury x = players(10);
            for (int p = 0; p < 10; p++) {
                x.programme(p, 1 << p / times);
            }
            DUE.is("each work " + times + " times", x.plan(0, 720, times), 1);
            DUE.is("heard(0)", x.heard(0), times);
            DUE.is("one time less", x.plan(0, 720, times - 1), times == 1 ? OUTSIDE : 0);
            x.programme(9, 1 | 2048);
            x.programme(9, 2048);
            DUE.is("the last one alone may go on", x.plan(20, 720, 3), 0);
            DUE.is("and the plan is gone", x.heard(0), 0);
            DUE.is("times again", x.plan(0, 720, times), 1);
            DUE.is("the first that can be", x.chosen(9), 0);
        }
    }

    /** What is empty: no PROGRAMME of one, no PROGRAMME at all, no PLAN. */
    private static void checkNoProgrammes() {
        PianoJury x = new PianoJury();
        DUE.is("no programme at all", x.plan(0, 720, 3), 0);
        DUE.is("none chosen", x.chosen(0), NONE);
        for (int missing = 0; missing < 3; missing++) {
            PianoJury three = players(3);
            for (int p = 0; p < 3; p++) {
                if (p != missing) {
                    three.programme(p, 1 << p);
                }
            }
            DUE.is("all but " + missing, three.plan(0, 720, 3), 0);
            for (int p = 0; p < 3; p++) {
                DUE.is("chosen of " + p, three.chosen(p), NONE);
                DUE.is("heard of " + p, three.heard(p), 0);
            }
            three.programme(missing, 1 << missing);
            DUE.is("all three", three.plan(0, 720, 3), 1);
            DUE.is("chosen of " + missing, three.chosen(missing), 0);
        }
    }

    /** "a lot (0 to n! less 1)", for each n: the first and the last order, and no more. */
    private static void checkDrawnEdges() {
        int orders = 1;
        for (int n = 1; n <= 10; n++) {
            orders *= n;
            PianoJury x = players(n);
            for (int i = 0; i < n; i++) {
                DUE.is("first order of " + n, x.drawn(0, i), i);
                DUE.is("last order of " + n, x.drawn(orders - 1, i), n - 1 - i);
                DUE.is("behind the last of " + n, x.drawn(orders, i), OUTSIDE);
                DUE.is("ahead of the first of " + n, x.drawn(-1, i), OUTSIDE);
            }
            DUE.is("a player behind the last", x.drawn(0, n), UNKNOWN);
            DUE.is("a player ahead of the first", x.drawn(0, -1), UNKNOWN);
            DUE.is("unknown ahead of outside", x.drawn(orders, n), UNKNOWN);
        }
    }

    /** "of all orders of the PLAYERS the one of that number, as they stand by the first PLAYER, then the second". */
    private static void checkDrawnInOrder() {
        PianoJury x = players(4);
        int before = -1;
        for (int lot = 0; lot < 24; lot++) {
            int order = 0;
            int seen = 0;
            for (int i = 0; i < 4; i++) {
                order = 10 * order + x.drawn(lot, i);
                seen |= 1 << x.drawn(lot, i);
            }
            DUE.is("each player once, lot " + lot, seen, 15);
            DUE.is("behind the one before, lot " + lot, order > before ? 1 : 0, 1);
            before = order;
        }
    }
}
