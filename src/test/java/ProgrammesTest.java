/** Promises 20 to 25: work, programme, plan, chosen, heard, drawn. */
public final class ProgrammesTest {
    private static final int NONE = PianoJury.NONE;
    private static final int UNKNOWN = PianoJury.UNKNOWN;
    private static final int OUTSIDE = PianoJury.OUTSIDE;
    private static final int FULL = PianoJury.FULL;
    private static final Due DUE = new Due("ProgrammesTest");

    public static void main(String[] args) {
        checkWork();
        checkProgramme();
        checkMinutes();
        checkFirstPlan();
        checkTimes();
        checkNoPlan();
        checkLatestPlan();
        checkPlanRefusals();
        checkHardestPlan();
        checkUnknown();
        checkDrawn();
        checkDrawnRefusals();
        DUE.end();
    }

    private static PianoJury players(int n) {
        PianoJury x = new PianoJury();
        x.contest(n, 1);
        return x;
    }

    private static void checkWork() {
        PianoJury x = players(1);
        DUE.is("work(0, 1)", x.work(0, 1), 10);
        DUE.is("work(0, 60)", x.work(0, 60), 1);
        DUE.is("work(11, 5)", x.work(11, 5), 10);
        DUE.is("work(0, 60) again", x.work(0, 60), 60);
        DUE.refuses("work(0, 0)", x, () -> x.work(0, 0), OUTSIDE);
        DUE.refuses("work(0, 61)", x, () -> x.work(0, 61), OUTSIDE);
        DUE.refuses("work(12, 5)", x, () -> x.work(12, 5), UNKNOWN);
        DUE.refuses("work(-1, 0)", x, () -> x.work(-1, 0), UNKNOWN);
    }

    private static void checkProgramme() {
        PianoJury x = players(2);
        DUE.is("first", x.programme(1, 1), 1);
        DUE.is("second", x.programme(1, 4095), 2);
        DUE.is("the same once more", x.programme(1, 4095), 3);
        DUE.refuses("a fourth", x, () -> x.programme(1, 2), FULL);
        DUE.refuses("outside ahead of full", x, () -> x.programme(1, 0), OUTSIDE);
        DUE.refuses("works 4096", x, () -> x.programme(0, 4096), OUTSIDE);
        DUE.refuses("works -1", x, () -> x.programme(0, -1), OUTSIDE);
        DUE.refuses("player 2", x, () -> x.programme(2, 0), UNKNOWN);
        DUE.refuses("player -1", x, () -> x.programme(-1, 1), UNKNOWN);
        DUE.is("the other player's first", x.programme(0, 2), 1);
        DUE.is("PROGRAMMES", x.count(5), 4);
    }

    private static void checkMinutes() {
        PianoJury x = players(1);
        x.programme(0, 0b11);
        x.work(0, 7);
        x.work(1, 13);
        DUE.is("plan(20, 20)", x.plan(20, 20, 1), 1);
        DUE.is("plan(21, 720)", x.plan(21, 720, 1), 0);
        DUE.is("plan(0, 19)", x.plan(0, 19, 1), 0);
        DUE.is("plan(0, 720)", x.plan(0, 720, 1), 1);
        DUE.is("plan(0, 0)", x.plan(0, 0, 1), 0);
        PianoJury all = players(1);
        all.programme(0, 4095);
        for (int w = 0; w < 12; w++) {
            all.work(w, 60);
        }
        DUE.is("plan(720, 720)", all.plan(720, 720, 1), 1);
        PianoJury each = players(2);
        each.programme(0, 1);
        each.programme(1, 2);
        DUE.is("minutes are each player's own", each.plan(10, 10, 1), 1);
    }

    private static void checkFirstPlan() {
        PianoJury x = players(3);
        x.programme(0, 0b0001);
        x.programme(0, 0b0010);
        x.programme(1, 0b0001);
        x.programme(1, 0b0100);
        x.programme(2, 0b0100);
        x.programme(2, 0b1000);
        DUE.is("plan", x.plan(0, 720, 1), 1);
        DUE.is("player 0 has its first", x.chosen(0), 0);
        DUE.is("player 1 has its second", x.chosen(1), 1);
        DUE.is("player 2 has its second", x.chosen(2), 1);
        DUE.is("heard(0)", x.heard(0), 1);
        DUE.is("heard(1)", x.heard(1), 0);
        DUE.is("heard(2)", x.heard(2), 1);
        DUE.is("heard(3)", x.heard(3), 1);
        PianoJury back = players(2);
        back.programme(0, 0b01);
        back.programme(0, 0b10);
        back.programme(1, 0b01);
        DUE.is("plan that goes back", back.plan(0, 720, 1), 1);
        DUE.is("player 0 must take its second", back.chosen(0), 1);
        DUE.is("player 1", back.chosen(1), 0);
    }

    private static void checkTimes() {
        for (int times = 1; times <= 3; times++) {
            PianoJury x = players(times + 1);
            for (int p = 0; p <= times; p++) {
                x.programme(p, 0b100);
            }
            DUE.is("one too many for " + times, x.plan(0, 720, times), 0);
            x.programme(times, 0b1000);
            DUE.is("just " + times, x.plan(0, 720, times), 1);
            DUE.is("heard(2)", x.heard(2), times);
            DUE.is("the one behind", x.chosen(times), 1);
        }
    }

    private static void checkNoPlan() {
        PianoJury x = players(2);
        x.programme(0, 1);
        DUE.is("one has no programme", x.plan(0, 720, 3), 0);
        DUE.is("so the other has none chosen", x.chosen(0), NONE);
        x.programme(1, 2);
        DUE.is("both have one", x.plan(0, 720, 3), 1);
        DUE.is("heard(1)", x.heard(1), 1);
        DUE.is("none that long", x.plan(11, 720, 3), 0);
        DUE.is("what was made is gone", x.chosen(1), NONE);
        DUE.is("nothing is heard", x.heard(1), 0);
    }

    private static void checkLatestPlan() {
        PianoJury x = players(1);
        x.programme(0, 0b11);
        x.plan(0, 720, 1);
        x.work(0, 60);
        x.programme(0, 0b100);
        DUE.is("later calls leave it", x.chosen(0), 0);
        DUE.is("heard(0)", x.heard(0), 1);
        DUE.is("heard(2)", x.heard(2), 0);
        DUE.is("plan(0, 10, 1)", x.plan(0, 10, 1), 1);
        DUE.is("the shorter one", x.chosen(0), 1);
        DUE.is("heard(2)", x.heard(2), 1);
    }

    private static void checkPlanRefusals() {
        PianoJury x = players(1);
        x.programme(0, 1);
        x.plan(0, 720, 1);
        int[][] wrong = {{-1, 5, 1}, {721, 721, 1}, {0, 721, 1}, {0, -1, 1}, {5, 4, 1}, {0, 9, 0}, {0, 9, 4},
            {Integer.MIN_VALUE, Integer.MAX_VALUE, 2}};
        for (int[] w : wrong) {
            String call = "plan(" + w[0] + ", " + w[1] + ", " + w[2] + ")";
            DUE.refuses(call, x, () -> x.plan(w[0], w[1], w[2]), OUTSIDE);
        }
        DUE.is("the plan stands", x.chosen(0), 0);
    }

    /** Nine players choose freely among three, and only then the last one finds its work taken. */
    private static void checkHardestPlan() {
        PianoJury x = players(10);
        for (int p = 0; p < 9; p++) {
            int works = p < 3 ? 1 : 0;
            x.programme(p, works | 2 << p);
            x.programme(p, works | 2 << p);
            x.programme(p, works | 2 << p);
        }
        x.programme(9, 1);
        DUE.is("plan(0, 720, 3)", x.plan(0, 720, 3), 0);
        x.programme(9, 2048);
        x.programme(9, 1);
        DUE.is("plan with another work", x.plan(0, 720, 3), 1);
        DUE.is("the first is free", x.chosen(0), 0);
        DUE.is("the last is not", x.chosen(9), 1);
        DUE.is("heard(0)", x.heard(0), 3);
    }

    private static void checkUnknown() {
        PianoJury x = players(2);
        int[] nobody = {-1, 2, 10, Integer.MAX_VALUE, Integer.MIN_VALUE};
        for (int p : nobody) {
            DUE.refuses("chosen, p", x, () -> x.chosen(p), UNKNOWN);
            DUE.refuses("drawn, i", x, () -> x.drawn(0, p), UNKNOWN);
            DUE.refuses("unknown ahead of outside", x, () -> x.drawn(-1, p), UNKNOWN);
        }
        int[] nothing = {-1, 12, Integer.MAX_VALUE};
        for (int w : nothing) {
            DUE.refuses("heard, w", x, () -> x.heard(w), UNKNOWN);
        }
    }

    private static void checkDrawn() {
        int[][] orders = {{0, 1, 2}, {0, 2, 1}, {1, 0, 2}, {1, 2, 0}, {2, 0, 1}, {2, 1, 0}};
        PianoJury x = players(3);
        for (int lot = 0; lot < 6; lot++) {
            for (int i = 0; i < 3; i++) {
                DUE.is("drawn(" + lot + ", " + i + ")", x.drawn(lot, i), orders[lot][i]);
            }
        }
        DUE.is("one player", players(1).drawn(0, 0), 0);
        PianoJury ten = players(10);
        for (int i = 0; i < 10; i++) {
            DUE.is("first order", ten.drawn(0, i), i);
            DUE.is("last order", ten.drawn(3628799, i), 9 - i);
        }
    }

    private static void checkDrawnRefusals() {
        PianoJury x = players(3);
        DUE.refuses("drawn(6, 0)", x, () -> x.drawn(6, 0), OUTSIDE);
        DUE.refuses("drawn(-1, 0)", x, () -> x.drawn(-1, 0), OUTSIDE);
        PianoJury ten = players(10);
        DUE.refuses("drawn(10!, 0)", ten, () -> ten.drawn(3628800, 0), OUTSIDE);
        PianoJury one = players(1);
        DUE.refuses("drawn(1, 0)", one, () -> one.drawn(1, 0), OUTSIDE);
    }
}
