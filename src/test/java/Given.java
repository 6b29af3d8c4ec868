/** Contests with marks in round 0. */
final class Given {
    private Given() {
    }

    /** Row j has what juror j gives to the players, 0 for no mark. */
    static PianoJury marked(int[][] rows) {
        PianoJury x = new PianoJury();
        x.contest(rows[0].length, rows.length);
        for (int j = 0; j < rows.length; j++) {
            for (int p = 0; p < rows[j].length; p++) {
                x.mark(0, j, p, rows[j][p] == 0 ? PianoJury.NONE : rows[j][p]);
            }
        }
        return x;
    }

    /** One player, a mark of each juror. */
    static PianoJury single(int... given) {
        int[][] rows = new int[given.length][1];
        for (int j = 0; j < given.length; j++) {
            rows[j][0] = given[j];
        }
        return marked(rows);
    }

    /** One juror, a mark for each player. */
    static PianoJury ranked(int... given) {
        return marked(new int[][] {given});
    }
}
