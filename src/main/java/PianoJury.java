import java.util.Arrays;

/** A piano contest: marks, orders made of them, rounds, prizes and programmes. */
public final class PianoJury {
    public static final int NONE = -1, UNKNOWN = -101, OUTSIDE = -102, STATE = -103, FULL = -104;

    private static final int MOST_PLAYERS = 10;
    private static final int MOST_JURORS = 7;
    private static final int ROUNDS = 3;
    private static final int MOST_MARK = 100;
    private static final int CUTS = 0;
    private static final int PULL = 1;
    private static final int MOST_CUTS = 2;
    private static final int MOST_PULL = 50;
    private static final int MOST_WEIGHT = 10;
    private static final int PRIZES = 6;
    private static final int MOST_PRIZE = 1000000;
    private static final int WORKS = 12;
    private static final int ALL_WORKS = 4095;
    private static final int MOST_MINUTES = 60;
    private static final int MOST_TOGETHER = 720;
    private static final int MOST_PROGRAMMES = 3;
    private static final int MOST_TIMES = 3;

    private static final int MEAN = 0;
    private static final int CUT = 1;
    private static final int MIDDLE = 2;
    private static final int YES = 3;
    private static final int PAIRS = 4;
    private static final int PULLED = 5;

    /** 420 squared: c and c times c divide it for every c from 1 to 7, so that no SCORE is rounded. */
    private static final int UNIT = 176400;

    private int players = 1;
    private int jurors = 1;
    /** By ROUNDS, JURORS, PLAYERS, as cellOf() tells. */
    private final int[] marks = new int[ROUNDS * MOST_JURORS * MOST_PLAYERS];
    /** 1 or 0, where marks has the MARK. */
    private final int[] yeses = new int[ROUNDS * MOST_JURORS * MOST_PLAYERS];
    /** 1 or 0, by JURORS, PLAYERS. */
    private final int[] pupils = new int[MOST_JURORS * MOST_PLAYERS];
    private final int[] rules = {1, 10};
    private final int[] weights = {1, 0, 0};
    private final int[] prizes = new int[PRIZES];
    private final int[] minutes = new int[WORKS];
    /** By PLAYERS, MOST_PROGRAMMES for each; of these the first ones, as programmeCounts tells. */
    private final int[] programmes = new int[MOST_PLAYERS * MOST_PROGRAMMES];
    private final int[] programmeCounts = new int[MOST_PLAYERS];
    /** Of each PLAYER which PROGRAMME it has by the latest PLAN; all are NONE without one. */
    private final int[] choices = new int[MOST_PLAYERS];

    // Rows to reckon in, made once: a call makes no objects.
    private final int[] sorted = new int[MOST_JURORS];
    private final int[] scores = new int[MOST_PLAYERS];
    private final int[] totals = new int[MOST_PLAYERS];
    /** The PROGRAMMES, 0 for one that is too short or too long for the PLAN being made. */
    private final int[] fitting = new int[MOST_PLAYERS * MOST_PROGRAMMES];

    public PianoJury() {
        Arrays.fill(minutes, 10);
        clearAll();
    }

    // ---- who

    public int contest(int n, int m) {
        if (!isWithin(n, 1, MOST_PLAYERS) || !isWithin(m, 1, MOST_JURORS)) {
            return OUTSIDE;
        }
        players = n;
        jurors = m;
        clearAll();
        return n;
    }

    public int mark(int round, int j, int p, int v) {
        if (!isRound(round) || !isJuror(j) || !isPlayer(p)) {
            return UNKNOWN;
        }
        if (v != NONE && !isWithin(v, 1, MOST_MARK)) {
            return OUTSIDE;
        }
        return replace(marks, cellOf(round, j, p), v);
    }

    public int yes(int round, int j, int p, boolean is) {
        if (!isRound(round) || !isJuror(j) || !isPlayer(p)) {
            return UNKNOWN;
        }
        return replace(yeses, cellOf(round, j, p), is ? 1 : 0);
    }

    public int pupil(int j, int p, boolean is) {
        if (!isJuror(j) || !isPlayer(p)) {
            return UNKNOWN;
        }
        return replace(pupils, pupilCellOf(j, p), is ? 1 : 0);
    }

    public int rule(int which, int v) {
        if (!isWithin(which, CUTS, PULL)) {
            return UNKNOWN;
        }
        boolean fits = which == CUTS ? isWithin(v, 0, MOST_CUTS) : isWithin(v, 1, MOST_PULL);
        if (!fits) {
            return OUTSIDE;
        }
        return replace(rules, which, v);
    }

    // ---- ways (0 to 5)

    public int score(int round, int way, int p) {
        if (!isRound(round) || !isPlayer(p)) {
            return UNKNOWN;
        }
        if (!isWay(way)) {
            return OUTSIDE;
        }
        return scoreOf(round, way, p);
    }

    public int beats(int round, int p, int q) {
        if (!isRound(round) || !isPlayer(p) || !isPlayer(q)) {
            return UNKNOWN;
        }
        return duel(round, p, q);
    }

    public int place(int round, int way, int p) {
        if (!isRound(round) || !isPlayer(p)) {
            return UNKNOWN;
        }
        if (!isWay(way)) {
            return OUTSIDE;
        }
        fillScores(round, way);
        return placeIn(scores, p);
    }

    public int passed(int round, int way, int k) {
        if (!isRound(round)) {
            return UNKNOWN;
        }
        if (!isWay(way) || !isLimit(k)) {
            return OUTSIDE;
        }
        return passedBits(round, way, k);
    }

    public int differ(int round, int way, int other, int k) {
        if (!isRound(round)) {
            return UNKNOWN;
        }
        if (!isWay(way) || !isWay(other) || !isLimit(k)) {
            return OUTSIDE;
        }
        return Integer.bitCount(passedBits(round, way, k) ^ passedBits(round, other, k));
    }

    public int reach(int round, int way, int j, int p, int side) {
        if (!isRound(round) || !isJuror(j) || !isPlayer(p)) {
            return UNKNOWN;
        }
        if (!isWay(way) || !isWithin(side, 0, 1)) {
            return OUTSIDE;
        }
        if (isPupil(j, p)) {
            return STATE;
        }
        fillScoresIf(round, way, j, p, side == 0);
        return placeIn(scores, p);
    }

    public int sway(int round, int way, int j, int k) {
        if (!isRound(round) || !isJuror(j)) {
            return UNKNOWN;
        }
        if (!isWay(way) || !isLimit(k)) {
            return OUTSIDE;
        }
        int passing = passedBits(round, way, k);
        int swayed = 0;
        for (int p = 0; p < players; p++) {
            if (isPupil(j, p)) {
                continue;
            }
            boolean passes = (passing >> p & 1) == 1;
            fillScoresIf(round, way, j, p, true);
            boolean kindly = passesIn(scores, p, k);
            fillScoresIf(round, way, j, p, false);
            boolean harshly = passesIn(scores, p, k);
            if (kindly != passes || harshly != passes) {
                swayed++;
            }
        }
        return swayed;
    }

    // ---- over rounds

    public int weight(int round, int v) {
        if (!isRound(round)) {
            return UNKNOWN;
        }
        if (!isWithin(v, 0, MOST_WEIGHT)) {
            return OUTSIDE;
        }
        return replace(weights, round, v);
    }

    public int total(int p) {
        if (!isPlayer(p)) {
            return UNKNOWN;
        }
        return totalOf(p);
    }

    public int last(int p) {
        if (!isPlayer(p)) {
            return UNKNOWN;
        }
        fillTotals();
        return placeIn(totals, p);
    }

    public int prize(int i, int v) {
        if (!isWithin(i, 0, PRIZES - 1)) {
            return UNKNOWN;
        }
        if (!isWithin(v, 0, MOST_PRIZE)) {
            return OUTSIDE;
        }
        return replace(prizes, i, v);
    }

    public int wins(int p) {
        if (!isPlayer(p)) {
            return UNKNOWN;
        }
        fillTotals();
        return shareOf(p);
    }

    public int rest() {
        fillTotals();
        int left = sumOf(prizes);
        for (int p = 0; p < players; p++) {
            left -= shareOf(p);
        }
        return left;
    }

    // ---- programmes

    public int work(int w, int v) {
        if (!isWork(w)) {
            return UNKNOWN;
        }
        if (!isWithin(v, 1, MOST_MINUTES)) {
            return OUTSIDE;
        }
        return replace(minutes, w, v);
    }

    public int programme(int p, int works) {
        if (!isPlayer(p)) {
            return UNKNOWN;
        }
        if (!isWithin(works, 1, ALL_WORKS)) {
            return OUTSIDE;
        }
        if (programmeCounts[p] >= MOST_PROGRAMMES) {
            return FULL;
        }
        programmes[programmeCellOf(p, programmeCounts[p])] = works;
        programmeCounts[p]++;
        return programmeCounts[p];
    }

    public int plan(int least, int most, int times) {
        if (!isWithin(least, 0, MOST_TOGETHER) || !isWithin(most, least, MOST_TOGETHER)
                || !isWithin(times, 1, MOST_TIMES)) {
            return OUTSIDE;
        }
        Arrays.fill(choices, NONE);
        fillFitting(least, most);
        // The search allows every WORK three TIMES: for fewer, all begin as heard before.
        int once = times < 3 ? ALL_WORKS : 0;
        int twice = times < 2 ? ALL_WORKS : 0;
        return choosesFrom(0, once, twice, 0) ? 1 : 0;
    }

    public int chosen(int p) {
        if (!isPlayer(p)) {
            return UNKNOWN;
        }
        return choices[p];
    }

    public int heard(int w) {
        if (!isWork(w)) {
            return UNKNOWN;
        }
        int times = 0;
        for (int p = 0; p < players; p++) {
            if (choices[p] != NONE) {
                times += programmes[programmeCellOf(p, choices[p])] >> w & 1;
            }
        }
        return times;
    }

    public int drawn(int lot, int i) {
        if (!isPlayer(i)) {
            return UNKNOWN;
        }
        if (!isWithin(lot, 0, factorial(players) - 1)) {
            return OUTSIDE;
        }
        int free = (1 << players) - 1;
        int left = lot;
        int player = NONE;
        for (int at = 0; at <= i; at++) {
            int orders = factorial(players - 1 - at);
            if (orders < 1) {
                return NONE;
            }
            player = bitOf(free, left / orders);
            left %= orders;
            free &= ~(1 << player);
        }
        return player;
    }

    // ---- what is told

    public int count(int what) {
        switch (what) {
            case 0:
                return players;
            case 1:
                return jurors;
            case 2:
                return countMarks();
            case 3:
                return sumOf(yeses);
            case 4:
                return sumOf(pupils);
            case 5:
                return sumOf(programmeCounts);
            default:
                return OUTSIDE;
        }
    }

    public long digest() {
        long h = mixed(mixed(193, players), jurors);
        for (int round = 0; round < ROUNDS; round++) {
            h = mixedRound(h, round);
        }
        for (int j = 0; j < jurors; j++) {
            for (int p = 0; p < players; p++) {
                h = mixed(h, pupils[pupilCellOf(j, p)]);
            }
        }
        h = mixedRow(mixedRow(h, rules), weights);
        h = mixedRow(mixedRow(h, prizes), minutes);
        for (int p = 0; p < players; p++) {
            for (int i = 0; i < programmeCounts[p]; i++) {
                h = mixed(h, programmes[programmeCellOf(p, i)]);
            }
            h = mixed(h, choices[p]);
        }
        return h;
    }

    // ---- numbers and cells

    private static boolean isWithin(int v, int least, int most) {
        return v >= least && v <= most;
    }

    private static boolean isRound(int round) {
        return isWithin(round, 0, ROUNDS - 1);
    }

    private boolean isJuror(int j) {
        return isWithin(j, 0, jurors - 1);
    }

    private boolean isPlayer(int p) {
        return isWithin(p, 0, players - 1);
    }

    private static boolean isWay(int way) {
        return isWithin(way, MEAN, PULLED);
    }

    private static boolean isLimit(int k) {
        return isWithin(k, 1, MOST_PLAYERS);
    }

    private static boolean isWork(int w) {
        return isWithin(w, 0, WORKS - 1);
    }

    private static int cellOf(int round, int j, int p) {
        return (round * MOST_JURORS + j) * MOST_PLAYERS + p;
    }

    private static int pupilCellOf(int j, int p) {
        return j * MOST_PLAYERS + p;
    }

    private static int programmeCellOf(int p, int i) {
        return p * MOST_PROGRAMMES + i;
    }

    private static int replace(int[] row, int at, int v) {
        int before = row[at];
        row[at] = v;
        return before;
    }

    /** Also beyond players and jurors, so that a larger contest later finds nothing old. */
    private void clearAll() {
        Arrays.fill(marks, NONE);
        Arrays.fill(yeses, 0);
        Arrays.fill(pupils, 0);
        Arrays.fill(programmeCounts, 0);
        Arrays.fill(choices, NONE);
    }

    // ---- scores

    private boolean isPupil(int j, int p) {
        return pupils[pupilCellOf(j, p)] == 1;
    }

    /** The MARK, if there is one and it COUNTS, else NONE. */
    private int countedMark(int round, int j, int p) {
        return pupils[pupilCellOf(j, p)] == 1 ? NONE : marks[cellOf(round, j, p)];
    }

    private boolean isMarked(int round, int p) {
        for (int j = 0; j < jurors; j++) {
            if (countedMark(round, j, p) != NONE) {
                return true;
            }
        }
        return false;
    }

    private int scoreOf(int round, int way, int p) {
        int c = sortMarks(round, p);
        if (c < 1) {
            return NONE;
        }
        switch (way) {
            case CUT:
                return cutMean(c);
            case MIDDLE:
                return UNIT / 2 * (sorted[(c - 1) / 2] + sorted[c / 2]);
            case YES:
                return UNIT * countYeses(round, p) / c;
            case PAIRS:
                return pairScore(round, p);
            case PULLED:
                return pulledMean(c);
            default:
                return meanBetween(0, c);
        }
    }

    /** Puts the MARKS of p that COUNT into sorted, the least first, and tells how many they are. */
    private int sortMarks(int round, int p) {
        int c = 0;
        for (int j = 0; j < jurors; j++) {
            int v = countedMark(round, j, p);
            if (v != NONE) {
                insertMark(c, v);
                c++;
            }
        }
        return c;
    }

    private void insertMark(int c, int v) {
        int at = c;
        while (at > 0 && sorted[at - 1] > v) {
            sorted[at] = sorted[at - 1];
            at--;
        }
        sorted[at] = v;
    }

    private int sumBetween(int from, int to) {
        int sum = 0;
        for (int i = from; i < to; i++) {
            sum += sorted[i];
        }
        return sum;
    }

    private int meanBetween(int from, int to) {
        if (to <= from) {
            return NONE;
        }
        return UNIT * sumBetween(from, to) / (to - from);
    }

    private int cutMean(int c) {
        int cuts = c > 2 * rules[CUTS] ? rules[CUTS] : 0;
        return meanBetween(cuts, c - cuts);
    }

    /** Reckons in c-ths of a MARK, so that S by c is whole. */
    private int pulledMean(int c) {
        if (c < 1) {
            return NONE;
        }
        int sum = sumBetween(0, c);
        int least = sum - c * rules[PULL];
        int most = sum + c * rules[PULL];
        int pulled = 0;
        for (int i = 0; i < c; i++) {
            pulled += Math.min(most, Math.max(least, c * sorted[i]));
        }
        return UNIT / (c * c) * pulled;
    }

    private int countYeses(int round, int p) {
        int said = 0;
        for (int j = 0; j < jurors; j++) {
            if (countedMark(round, j, p) != NONE) {
                said += yeses[cellOf(round, j, p)];
            }
        }
        return said;
    }

    private int pairScore(int round, int p) {
        int sum = 0;
        for (int q = 0; q < players; q++) {
            if (q != p && isMarked(round, q)) {
                sum += 1 + duel(round, p, q);
            }
        }
        return sum;
    }

    /** 1 if p BEATS q, 0 if they are EVEN, -1 if q BEATS p. */
    private int duel(int round, int p, int q) {
        int more = 0;
        for (int j = 0; j < jurors; j++) {
            int ofP = countedMark(round, j, p);
            int ofQ = countedMark(round, j, q);
            if (ofP != NONE && ofQ != NONE) {
                more += Integer.compare(ofP, ofQ);
            }
        }
        return Integer.compare(more, 0);
    }

    // ---- places

    private void fillScores(int round, int way) {
        for (int p = 0; p < players; p++) {
            scores[p] = scoreOf(round, way, p);
        }
    }

    /**
     * The SCORES if j were as kind to p as it can be, or as harsh. No other MARK need be tried: in every WAY
     * a greater MARK of p (or a YES) never makes p's PLACE worse.
     */
    private void fillScoresIf(int round, int way, int j, int p, boolean kind) {
        int cell = cellOf(round, j, p);
        int mark = marks[cell];
        int yes = yeses[cell];
        if (way == YES) {
            yeses[cell] = kind ? 1 : 0;
        } else {
            marks[cell] = kind ? MOST_MARK : 1;
        }
        fillScores(round, way);
        marks[cell] = mark;
        yeses[cell] = yes;
    }

    /** NONE is less than every SCORE and TOTAL, so it needs no case of its own. */
    private int placeIn(int[] row, int p) {
        int greater = 0;
        for (int q = 0; q < players; q++) {
            if (row[q] > row[p]) {
                greater++;
            }
        }
        return greater + 1;
    }

    private boolean passesIn(int[] row, int p, int k) {
        return row[p] != NONE && placeIn(row, p) <= k;
    }

    private int passedBits(int round, int way, int k) {
        fillScores(round, way);
        int bits = 0;
        for (int p = 0; p < players; p++) {
            if (passesIn(scores, p, k)) {
                bits |= 1 << p;
            }
        }
        return bits;
    }

    // ---- totals and prizes

    private int totalOf(int p) {
        int sum = 0;
        for (int round = 0; round < ROUNDS; round++) {
            if (weights[round] > 0) {
                int mean = scoreOf(round, MEAN, p);
                if (mean == NONE) {
                    return NONE;
                }
                sum += weights[round] * mean;
            }
        }
        return sum;
    }

    private void fillTotals() {
        for (int p = 0; p < players; p++) {
            totals[p] = totalOf(p);
        }
    }

    /** What p wins by the row of totals. */
    private int shareOf(int p) {
        if (totals[p] == NONE) {
            return 0;
        }
        int sharers = 0;
        for (int q = 0; q < players; q++) {
            if (totals[q] == totals[p]) {
                sharers++;
            }
        }
        if (sharers < 1) {
            return 0;
        }
        int first = placeIn(totals, p) - 1;
        int pot = 0;
        for (int i = first; i < first + sharers && i < PRIZES; i++) {
            pot += prizes[i];
        }
        return pot / sharers;
    }

    // ---- programmes and orders

    private void fillFitting(int least, int most) {
        for (int p = 0; p < players; p++) {
            for (int i = 0; i < programmeCounts[p]; i++) {
                int cell = programmeCellOf(p, i);
                boolean fits = isWithin(minutesOf(programmes[cell]), least, most);
                fitting[cell] = fits ? programmes[cell] : 0;
            }
        }
    }

    private int minutesOf(int works) {
        int sum = 0;
        for (int w = 0; w < WORKS; w++) {
            if ((works >> w & 1) == 1) {
                sum += minutes[w];
            }
        }
        return sum;
    }

    /**
     * Chooses for p and all PLAYERS behind it, the first that can be; false, with no choice made, if none can.
     * once, twice and thrice are the WORKS heard so often or oftener; p is also how deep it goes, ten at most.
     */
    private boolean choosesFrom(int p, int once, int twice, int thrice) {
        if (p >= players) {
            return true;
        }
        for (int i = 0; i < programmeCounts[p]; i++) {
            if (choosesWith(p, i, once, twice, thrice)) {
                return true;
            }
        }
        return false;
    }

    /** The same, where p has its PROGRAMME i. */
    private boolean choosesWith(int p, int i, int once, int twice, int thrice) {
        int works = fitting[programmeCellOf(p, i)];
        if (works == 0 || (works & thrice) != 0) {
            return false;
        }
        if (!choosesFrom(p + 1, once | works, twice | (once & works), thrice | (twice & works))) {
            return false;
        }
        choices[p] = i;
        return true;
    }

    private static int factorial(int k) {
        int product = 1;
        for (int i = 2; i <= k; i++) {
            product *= i;
        }
        return product;
    }

    /** Which bit is the one with so many lower ones below it in the set; NONE if the set has too few. */
    private static int bitOf(int set, int lower) {
        int seen = 0;
        for (int bit = 0; bit < MOST_PLAYERS; bit++) {
            if ((set >> bit & 1) == 1) {
                if (seen == lower) {
                    return bit;
                }
                seen++;
            }
        }
        return NONE;
    }

    // ---- what is told

    private int countMarks() {
        int given = 0;
        for (int cell = 0; cell < marks.length; cell++) {
            if (marks[cell] != NONE) {
                given++;
            }
        }
        return given;
    }

    private static int sumOf(int[] row) {
        int sum = 0;
        for (int i = 0; i < row.length; i++) {
            sum += row[i];
        }
        return sum;
    }

    private static long mixed(long h, long v) {
        return 31 * h + v;
    }

    private static long mixedRow(long h, int[] row) {
        long all = h;
        for (int i = 0; i < row.length; i++) {
            all = mixed(all, row[i]);
        }
        return all;
    }

    private long mixedRound(long h, int round) {
        long all = h;
        for (int j = 0; j < jurors; j++) {
            for (int p = 0; p < players; p++) {
                int cell = cellOf(round, j, p);
                all = mixed(mixed(all, marks[cell]), yeses[cell]);
            }
        }
        return all;
    }
}
