/** Promises 14 to 19: weight, total, last, prize, wins, rest. */
public final class RoundsTest {
    private static final int NONE = PianoJury.NONE;
    private static final int UNKNOWN = PianoJury.UNKNOWN;
    private static final int OUTSIDE = PianoJury.OUTSIDE;
    private static final int UNIT = 176400;
    private static final Due DUE = new Due("RoundsTest");

    public static void main(String[] args) {
        checkWeight();
        checkTotal();
        checkLast();
        checkPrize();
        checkWins();
        checkRest();
        checkUnknown();
        DUE.end();
    }

    private static void checkWeight() {
        PianoJury x = new PianoJury();
        DUE.is("weight(0, 10)", x.weight(0, 10), 1);
        DUE.is("weight(0, 0)", x.weight(0, 0), 10);
        DUE.is("weight(2, 3)", x.weight(2, 3), 0);
        DUE.is("weight(1, 4)", x.weight(1, 4), 0);
        DUE.is("weight(2, 3) again", x.weight(2, 3), 3);
        DUE.refuses("weight(0, -1)", x, () -> x.weight(0, -1), OUTSIDE);
        DUE.refuses("weight(0, 11)", x, () -> x.weight(0, 11), OUTSIDE);
        DUE.refuses("weight(3, 1)", x, () -> x.weight(3, 1), UNKNOWN);
        DUE.refuses("weight(-1, 11)", x, () -> x.weight(-1, 11), UNKNOWN);
    }

    private static void checkTotal() {
        PianoJury x = new PianoJury();
        x.contest(2, 2);
        DUE.is("no mark", x.total(0), NONE);
        x.mark(0, 0, 0, 50);
        x.mark(0, 1, 0, 51);
        x.mark(2, 1, 0, 7);
        DUE.is("round 0 alone", x.total(0), UNIT / 2 * 101);
        x.weight(2, 10);
        DUE.is("two rounds", x.total(0), UNIT / 2 * 101 + UNIT * 70);
        x.weight(1, 1);
        DUE.is("none in round 1", x.total(0), NONE);
        x.weight(1, 0);
        x.pupil(1, 0, true);
        DUE.is("round 2 has no mark that counts", x.total(0), NONE);
        x.weight(2, 0);
        DUE.is("without the teacher", x.total(0), UNIT * 50);
        x.weight(0, 0);
        DUE.is("no weights: 0 for all", x.total(1), 0);
        PianoJury most = new PianoJury();
        for (int round = 0; round < 3; round++) {
            most.mark(round, 0, 0, 100);
            most.weight(round, 10);
        }
        DUE.is("the greatest total", most.total(0), UNIT * 3000);
    }

    /** Marks by one juror in round 0, 0 for none. */
    private static PianoJury ranked(int... given) {
        PianoJury x = new PianoJury();
        x.contest(given.length, 1);
        for (int p = 0; p < given.length; p++) {
            x.mark(0, 0, p, given[p] == 0 ? NONE : given[p]);
        }
        return x;
    }

    private static void checkLast() {
        PianoJury x = ranked(70, 90, 70, 0, 60, 0);
        int[] places = {2, 1, 2, 5, 4, 5};
        for (int p = 0; p < 6; p++) {
            DUE.is("last(" + p + ")", x.last(p), places[p]);
        }
        x.mark(1, 0, 4, 100);
        x.weight(1, 1);
        DUE.is("the only one with a total", x.last(4), 1);
        DUE.is("the others", x.last(1), 2);
        x.weight(0, 0);
        x.weight(1, 0);
        DUE.is("all have total 0", x.last(3), 1);
    }

    private static void checkPrize() {
        PianoJury x = new PianoJury();
        DUE.is("prize(0, most)", x.prize(0, 1000000), 0);
        DUE.is("prize(0, 0)", x.prize(0, 0), 1000000);
        DUE.is("prize(5, 7)", x.prize(5, 7), 0);
        DUE.is("prize(4, 8)", x.prize(4, 8), 0);
        DUE.is("prize(5, 9)", x.prize(5, 9), 7);
        DUE.refuses("prize(0, -1)", x, () -> x.prize(0, -1), OUTSIDE);
        DUE.refuses("prize(0, 1000001)", x, () -> x.prize(0, 1000001), OUTSIDE);
        DUE.refuses("prize(6, 1)", x, () -> x.prize(6, 1), UNKNOWN);
        DUE.refuses("prize(-1, -1)", x, () -> x.prize(-1, -1), UNKNOWN);
    }

    private static void givePrizes(PianoJury x, int... given) {
        for (int i = 0; i < given.length; i++) {
            x.prize(i, given[i]);
        }
    }

    private static void checkWins() {
        PianoJury x = ranked(70, 90, 70, 0, 60, 70);
        givePrizes(x, 1000, 500, 300, 101, 50, 20);
        int[] won = {300, 1000, 300, 0, 50, 300};
        for (int p = 0; p < 6; p++) {
            DUE.is("wins(" + p + ")", x.wins(p), won[p]);
        }
        DUE.is("1 is not shared, PRIZE 5 is not won", x.rest(), 21);
        PianoJury ten = ranked(10, 9, 8, 7, 6, 5, 5, 5, 2, 1);
        givePrizes(ten, 60, 50, 40, 30, 20, 10);
        DUE.is("three share PRIZE 5 alone", ten.wins(7), 3);
        DUE.is("place 5", ten.wins(4), 20);
        DUE.is("place 9", ten.wins(8), 0);
        DUE.is("place 10", ten.wins(9), 0);
        DUE.is("rest of three", ten.rest(), 1);
    }

    private static void checkRest() {
        PianoJury x = ranked(0, 0);
        givePrizes(x, 1000000, 1000000, 1000000, 1000000, 1000000, 1000000);
        DUE.is("nobody wins", x.rest(), 6000000);
        DUE.is("no total, nothing won", x.wins(0), 0);
        x.mark(0, 0, 1, 1);
        DUE.is("one wins", x.wins(1), 1000000);
        DUE.is("the others are left", x.rest(), 5000000);
        x.weight(0, 0);
        DUE.is("both share", x.wins(0), 1000000);
        DUE.is("four are left", x.rest(), 4000000);
        PianoJury seven = ranked(5, 5, 5, 5, 5, 5, 5);
        givePrizes(seven, 100, 0, 0, 0, 0, 4);
        DUE.is("seven share", seven.wins(6), 14);
        DUE.is("what cannot be shared", seven.rest(), 6);
    }

    private static void checkUnknown() {
        PianoJury x = ranked(5, 6);
        int[] nobody = {-1, 2, 10, Integer.MAX_VALUE, Integer.MIN_VALUE};
        for (int p : nobody) {
            DUE.refuses("total, p", x, () -> x.total(p), UNKNOWN);
            DUE.refuses("last, p", x, () -> x.last(p), UNKNOWN);
            DUE.refuses("wins, p", x, () -> x.wins(p), UNKNOWN);
        }
    }
}
