/** Promises 14 to 19: weight, total, last, prize, wins, rest. What they refuse, RefusalsTest tries. */
public final class RoundsTest {
    private static final int NONE = PianoJury.NONE;
    private static final int OUTSIDE = PianoJury.OUTSIDE;
    private static final int UNIT = 176400;
    private static final Due DUE = new Due("RoundsTest");

    public static void main(String[] args) {
        checkWeight();
        checkTotal();
        checkLast();
        checkPrize();
        checkWins();
        checkRest();
        checkWeightEdges();
        checkTotalEdges();
        checkLastEdges();
        checkPrizeEdges();
        checkPlacesOfPrizes();
        checkSharing();
        checkNoTotalNoPrize();
        DUE.end();
    }

    private static void checkWeight() {
        PianoJury x = new PianoJury();
        DUE.is("weight(0, 10)", x.weight(0, 10), 1);
        DUE.is("weight(0, 0)", x.weight(0, 0), 10);
        DUE.is("weight(2, 3)", x.weight(2, 3), 0);
        DUE.is("weight(1, 4)", x.weight(1, 4), 0);
        DUE.is("weight(2, 3) again", x.weight(2, 3), 3);
    }

    private static void checkTotal() {
        PianoJury x = new PianoJury();
        x.contest(2, 2);
        DUE.is("no mark", x.total(0), NONE);
        x.mark(0, 0, 0, 50);
        x.mark(0, 1, 0, 51);
        x.mark(2, 1, 0, 7);
        DUE.is("round 0 alone", x.total(0), UNIT / 2 * 101);
        x.weight(2, 10);
        DUE.is("two rounds", x.total(0), UNIT / 2 * 101 + UNIT * 70);
        x.weight(1, 1);
        DUE.is("none in round 1", x.total(0), NONE);
        x.weight(1, 0);
        x.pupil(1, 0, true);
        DUE.is("round 2 has no mark that counts", x.total(0), NONE);
        x.weight(2, 0);
        DUE.is("without the teacher", x.total(0), UNIT * 50);
        x.weight(0, 0);
        DUE.is("no weights: 0 for all", x.total(1), 0);
        PianoJury most = new PianoJury();
        for (int round = 0; round < 3; round++) {
            most.mark(round, 0, 0, 100);
            most.weight(round, 10);
        }
        DUE.is("the greatest total", most.total(0), UNIT * 3000);
    }

    private static void checkLast() {
        PianoJury x = Given.ranked(70, 90, 70, 0, 60, 0);
        int[] places = {2, 1, 2, 5, 4, 5};
        for (int p = 0; p < 6; p++) {
            DUE.is("last(" + p + ")", x.last(p), places[p]);
        }
        x.mark(1, 0, 4, 100);
        x.weight(1, 1);
        DUE.is("the only one with a total", x.last(4), 1);
        DUE.is("the others", x.last(1), 2);
        x.weight(0, 0);
        x.weight(1, 0);
        DUE.is("all have total 0", x.last(3), 1);
    }

    private static void checkPrize() {
        PianoJury x = new PianoJury();
        DUE.is("prize(0, most)", x.prize(0, 1000000), 0);
        DUE.is("prize(0, 0)", x.prize(0, 0), 1000000);
        DUE.is("prize(5, 7)", x.prize(5, 7), 0);
        DUE.is("prize(4, 8)", x.prize(4, 8), 0);
        DUE.is("prize(5, 9)", x.prize(5, 9), 7);
    }

    private static void givePrizes(PianoJury x, int... given) {
        for (int i = 0; i < given.length; i++) {
            x.prize(i, given[i]);
        }
    }

    private static void checkWins() {
        PianoJury x = Given.ranked(70, 90, 70, 0, 60, 70);
        givePrizes(x, 1000, 500, 300, 101, 50, 20);
        int[] won = {300, 1000, 300, 0, 50, 300};
        for (int p = 0; p < 6; p++) {
            DUE.is("wins(" + p + ")", x.wins(p), won[p]);
        }
        DUE.is("1 is not shared, PRIZE 5 is not won", x.rest(), 21);
        PianoJury ten = Given.ranked(10, 9, 8, 7, 6, 5, 5, 5, 2, 1);
        givePrizes(ten, 60, 50, 40, 30, 20, 10);
        DUE.is("three share PRIZE 5 alone", ten.wins(7), 3);
        DUE.is("place 5", ten.wins(4), 20);
        DUE.is("place 9", ten.wins(8), 0);
        DUE.is("place 10", ten.wins(9), 0);
        DUE.is("rest of three", ten.rest(), 1);
    }

    private static void checkRest() {
        PianoJury x = Given.ranked(0, 0);
        givePrizes(x, 1000000, 1000000, 1000000, 1000000, 1000000, 1000000);
        DUE.is("nobody wins", x.rest(), 6000000);
        DUE.is("no total, nothing won", x.wins(0), 0);
        x.mark(0, 0, 1, 1);
        DUE.is("one wins", x.wins(1), 1000000);
        DUE.is("the others are left", x.rest(), 5000000);
        x.weight(0, 0);
        DUE.is("both share", x.wins(0), 1000000);
        DUE.is("four are left", x.rest(), 4000000);
        PianoJury seven = Given.ranked(5, 5, 5, 5, 5, 5, 5);
        givePrizes(seven, 100, 0, 0, 0, 0, 4);
        DUE.is("seven share", seven.wins(6), 14);
        DUE.is("what cannot be shared", seven.rest(), 6);
    }

    /** "WEIGHT (0 to 10)": each one counts so often, and the first wrong ones leave what was there. */
    private static void checkWeightEdges() {
        PianoJury x = Given.single(40);
        for (int round = 0; round < 3; round++) {
            x.mark(round, 0, 0, 40);
            x.weight(round, 0);
        }
        for (int round = 0; round < 3; round++) {
            for (int v = 0; v <= 10; v++) {
                x.weight(round, v);
                DUE.is("weight " + v + " of round " + round, x.total(0), UNIT * 40 * v);
            }
            DUE.is("weight 11", x.weight(round, 11), OUTSIDE);
            DUE.is("weight -1", x.weight(round, -1), OUTSIDE);
            DUE.is("still 10", x.weight(round, 0), 10);
        }
    }

    /** "NONE, if in some ROUND with a WEIGHT above 0 it has none": each round, by its least weight. */
    private static void checkTotalEdges() {
        for (int missing = 0; missing < 3; missing++) {
            PianoJury x = new PianoJury();
            for (int round = 0; round < 3; round++) {
                x.weight(round, 1);
                x.mark(round, 0, 0, round == missing ? NONE : 1);
            }
            DUE.is("none in round " + missing, x.total(0), NONE);
            x.weight(missing, 0);
            DUE.is("it has no weight", x.total(0), UNIT * 2);
            x.weight(missing, 10);
            x.mark(missing, 0, 0, 1);
            DUE.is("it has a mark", x.total(0), UNIT * 12);
            x.pupil(0, 0, true);
            DUE.is("no mark of the only juror counts", x.total(0), NONE);
        }
        PianoJury x = new PianoJury();
        x.weight(0, 0);
        DUE.is("no weight, no mark", x.total(0), 0);
        x.weight(0, 1);
        x.yes(0, 0, 0, true);
        DUE.is("a yes is no mark", x.total(0), NONE);
        x.mark(0, 0, 0, 1);
        DUE.is("the least total above 0", x.total(0), UNIT);
        PianoJury seven = Given.single(1, 1, 1, 1, 1, 1, 2);
        seven.weight(0, 10);
        DUE.is("by the mean, not by cut or middle", seven.total(0), UNIT / 7 * 80);
    }

    /** "PLACES by TOTALS likewise": NONE is below all, a TOTAL of 0 too. */
    private static void checkLastEdges() {
        DUE.is("a new object", new PianoJury().last(0), 1);
        PianoJury ten = Given.ranked(10, 9, 8, 7, 6, 5, 4, 3, 2, 1);
        for (int p = 0; p < 10; p++) {
            DUE.is("last(" + p + ") of ten", ten.last(p), p + 1);
        }
        ten.weight(2, 1);
        DUE.is("nobody has a mark in round 2", ten.last(9), 1);
        ten.mark(2, 0, 9, 1);
        DUE.is("one has", ten.last(9), 1);
        DUE.is("all others", ten.last(0), 2);
        PianoJury nine = Given.ranked(5, 5, 5, 5, 5, 5, 5, 5, 5, 0);
        DUE.is("one of nine", nine.last(8), 1);
        DUE.is("none behind nine", nine.last(9), 10);
    }

    /** "PRIZES 0 to 5 (0 to 1000000)": the first wrong ones leave what was there. */
    private static void checkPrizeEdges() {
        PianoJury x = new PianoJury();
        for (int i = 0; i < 6; i++) {
            DUE.is("the most", x.prize(i, 1000000), 0);
            DUE.is("one more", x.prize(i, 1000001), OUTSIDE);
            DUE.is("less than none", x.prize(i, -1), OUTSIDE);
            DUE.is("rest of " + (i + 1), x.rest(), 1000000 * (i + 1));
        }
        for (int i = 0; i < 6; i++) {
            DUE.is("none again", x.prize(i, 0), 1000000);
            DUE.is("rest without " + (i + 1), x.rest(), 1000000 * (5 - i));
        }
    }

    /** "PRIZES 0 to 5 are for PLACES 1 to 6": one prize for each place, none for place 7. */
    private static void checkPlacesOfPrizes() {
        for (int i = 0; i < 6; i++) {
            PianoJury x = Given.ranked(10, 9, 8, 7, 6, 5, 4, 3, 2, 1);
            x.prize(i, 600);
            for (int p = 0; p < 10; p++) {
                DUE.is("prize " + i + " for place " + (p + 1), x.wins(p), p == i ? 600 : 0);
            }
            DUE.is("all is won", x.rest(), 0);
        }
    }

    /** "share the PRIZES of that PLACE and of the next ones, as many as they are, alike, rounded down". */
    private static void checkSharing() {
        int[] six = {601, 502, 403, 304, 205, 106};
        PianoJury all = Given.ranked(5, 5, 5, 5, 5, 5, 5, 5, 5, 5);
        givePrizes(all, six);
        DUE.is("ten share 2121", all.wins(9), 212);
        DUE.is("one is left", all.rest(), 1);
        PianoJury five = Given.ranked(9, 8, 7, 6, 5, 5, 4);
        givePrizes(five, six);
        DUE.is("two share the last two", five.wins(4) + five.wins(5), 155 + 155);
        DUE.is("place 7", five.wins(6), 0);
        DUE.is("one is left of two", five.rest(), 1);
        PianoJury sixth = Given.ranked(9, 8, 7, 6, 5, 4, 4);
        givePrizes(sixth, six);
        DUE.is("two share the last one", sixth.wins(5) + sixth.wins(6), 53 + 53);
        PianoJury few = Given.ranked(5, 5, 5, 5, 5, 5, 5, 5, 5, 5);
        givePrizes(few, 9, 0, 0, 0, 0, 0);
        DUE.is("nine for ten", few.wins(0), 0);
        DUE.is("all is left", few.rest(), 9);
        few.prize(5, 1);
        DUE.is("ten for ten", few.wins(9), 1);
        DUE.is("nothing is left", few.rest(), 0);
        PianoJury most = Given.ranked(5, 5, 5, 5, 5, 5);
        givePrizes(most, 1000000, 1000000, 1000000, 1000000, 1000000, 1000000);
        DUE.is("six share the most", most.wins(5), 1000000);
        DUE.is("and leave nothing", most.rest(), 0);
    }

    /** "0 without a TOTAL", though its PLACE has a prize. */
    private static void checkNoTotalNoPrize() {
        PianoJury x = Given.ranked(50, 0, 0);
        givePrizes(x, 100, 60, 40);
        DUE.is("place 1", x.wins(0), 100);
        DUE.is("place 2 without a total", x.wins(1), 0);
        DUE.is("their prizes are left", x.rest(), 100);
        DUE.is("a new object", new PianoJury().wins(0), 0);
        DUE.is("no prizes", new PianoJury().rest(), 0);
        x.mark(0, 0, 0, NONE);
        DUE.is("place 1 without a total", x.wins(0), 0);
        DUE.is("all is left", x.rest(), 200);
        x.weight(0, 0);
        DUE.is("total 0 is a total", x.wins(2), 66);
        DUE.is("two are left", x.rest(), 2);
    }
}
