import java.util.ArrayList;
import java.util.Arrays;
import java.util.List;

/**
 * The document read a second time, as plainly and slowly as can be: fractions stay sums, every MARK from 1 to 100
 * is tried, every choice of PROGRAMMES and every order is walked through. ModelTest holds PianoJury against it.
 */
final class Model {
    private static final int NONE = -1;
    private static final int UNKNOWN = -101;
    private static final int OUTSIDE = -102;
    private static final int STATE = -103;
    private static final int FULL = -104;

    private int n;
    private int m;
    private int[][][] mark;
    private boolean[][][] yes;
    private boolean[][] pupil;
    private int cuts = 1;
    private int pull = 10;
    private final int[] weight = {1, 0, 0};
    private final int[] prize = new int[6];
    private final int[] minutes = new int[12];
    private List<List<Integer>> programmes;
    private int[] plan;

    Model() {
        Arrays.fill(minutes, 10);
        contest(1, 1);
    }

    int contest(int players, int jurors) {
        if (players < 1 || players > 10 || jurors < 1 || jurors > 7) {
            return OUTSIDE;
        }
        n = players;
        m = jurors;
        mark = new int[3][m][n];
        for (int[][] round : mark) {
            for (int[] row : round) {
                Arrays.fill(row, NONE);
            }
        }
        yes = new boolean[3][m][n];
        pupil = new boolean[m][n];
        programmes = new ArrayList<>();
        for (int p = 0; p < n; p++) {
            programmes.add(new ArrayList<>());
        }
        plan = null;
        return n;
    }

    private boolean named(int number, int count) {
        return 0 <= number && number < count;
    }

    int mark(int round, int j, int p, int v) {
        if (!named(round, 3) || !named(j, m) || !named(p, n)) {
            return UNKNOWN;
        }
        if (v != NONE && (v < 1 || v > 100)) {
            return OUTSIDE;
        }
        int was = mark[round][j][p];
        mark[round][j][p] = v;
        return was;
    }

    int yes(int round, int j, int p, boolean is) {
        if (!named(round, 3) || !named(j, m) || !named(p, n)) {
            return UNKNOWN;
        }
        boolean was = yes[round][j][p];
        yes[round][j][p] = is;
        return was ? 1 : 0;
    }

    int pupil(int j, int p, boolean is) {
        if (!named(j, m) || !named(p, n)) {
            return UNKNOWN;
        }
        boolean was = pupil[j][p];
        pupil[j][p] = is;
        return was ? 1 : 0;
    }

    int rule(int which, int v) {
        if (which == 0) {
            int was = cuts;
            if (v < 0 || v > 2) {
                return OUTSIDE;
            }
            cuts = v;
            return was;
        }
        if (which == 1) {
            int was = pull;
            if (v < 1 || v > 50) {
                return OUTSIDE;
            }
            pull = v;
            return was;
        }
        return UNKNOWN;
    }

    private boolean counts(int round, int j, int p) {
        return mark[round][j][p] != NONE && !pupil[j][p];
    }

    private List<Integer> marksOf(int round, int p) {
        List<Integer> all = new ArrayList<>();
        for (int j = 0; j < m; j++) {
            if (counts(round, j, p)) {
                all.add(mark[round][j][p]);
            }
        }
        all.sort(null);
        return all;
    }

    private static long mean(List<Integer> all) {
        long sum = 0;
        for (int v : all) {
            sum += v;
        }
        return whole(176400 * sum, all.size());
    }

    private static long whole(long sum, long by) {
        if (sum % by != 0) {
            throw new AssertionError("the document says that it is whole: " + sum + " by " + by);
        }
        return sum / by;
    }

    private long points(int round, int way, int p) {
        List<Integer> all = marksOf(round, p);
        int c = all.size();
        if (c == 0) {
            return NONE;
        }
        if (way == 0) {
            return mean(all);
        }
        if (way == 1) {
            return 2 * cuts >= c ? mean(all) : mean(all.subList(cuts, c - cuts));
        }
        if (way == 2) {
            return c % 2 == 1 ? 2L * 88200 * all.get(c / 2) : 88200L * (all.get(c / 2 - 1) + all.get(c / 2));
        }
        if (way == 3) {
            long said = 0;
            for (int j = 0; j < m; j++) {
                said += counts(round, j, p) && yes[round][j][p] ? 1 : 0;
            }
            return whole(176400 * said, c);
        }
        return way == 4 ? pairs(round, p) : pulled(all);
    }

    private long pairs(int round, int p) {
        long points = 0;
        for (int q = 0; q < n; q++) {
            if (q == p || marksOf(round, q).isEmpty()) {
                continue;
            }
            boolean wins = giveMore(round, p, q) > giveMore(round, q, p);
            boolean loses = giveMore(round, q, p) > giveMore(round, p, q);
            points += wins ? 2 : 0;
            points += !wins && !loses ? 1 : 0;
        }
        return points;
    }

    private int giveMore(int round, int p, int q) {
        int jurors = 0;
        for (int j = 0; j < m; j++) {
            boolean both = counts(round, j, p) && counts(round, j, q);
            jurors += both && mark[round][j][p] > mark[round][j][q] ? 1 : 0;
        }
        return jurors;
    }

    /** In 420ths of a MARK, of which S by c is a whole number for every c from 1 to 7. */
    private long pulled(List<Integer> all) {
        long middle = 0;
        for (int v : all) {
            middle += 420L * v;
        }
        middle = whole(middle, all.size());
        long sum = 0;
        for (int v : all) {
            long taken = 420L * v;
            taken = taken < middle - 420L * pull ? middle - 420L * pull : taken;
            taken = taken > middle + 420L * pull ? middle + 420L * pull : taken;
            sum += taken;
        }
        return whole(420 * sum, all.size());
    }

    int score(int round, int way, int p) {
        if (!named(round, 3) || !named(p, n)) {
            return UNKNOWN;
        }
        return named(way, 6) ? Math.toIntExact(points(round, way, p)) : OUTSIDE;
    }

    int beats(int round, int p, int q) {
        if (!named(round, 3) || !named(p, n) || !named(q, n)) {
            return UNKNOWN;
        }
        return Integer.signum(giveMore(round, p, q) - giveMore(round, q, p));
    }

    private int placeOf(int round, int way, int p) {
        int place = 1;
        for (int q = 0; q < n; q++) {
            place += points(round, way, q) > points(round, way, p) ? 1 : 0;
        }
        return place;
    }

    int place(int round, int way, int p) {
        if (!named(round, 3) || !named(p, n)) {
            return UNKNOWN;
        }
        return named(way, 6) ? placeOf(round, way, p) : OUTSIDE;
    }

    private boolean passes(int round, int way, int p, int k) {
        return points(round, way, p) != NONE && placeOf(round, way, p) <= k;
    }

    int passed(int round, int way, int k) {
        if (!named(round, 3)) {
            return UNKNOWN;
        }
        if (!named(way, 6) || k < 1 || k > 10) {
            return OUTSIDE;
        }
        int bits = 0;
        for (int p = 0; p < n; p++) {
            bits += passes(round, way, p, k) ? 1 << p : 0;
        }
        return bits;
    }

    int differ(int round, int way, int other, int k) {
        if (!named(round, 3)) {
            return UNKNOWN;
        }
        if (!named(way, 6) || !named(other, 6) || k < 1 || k > 10) {
            return OUTSIDE;
        }
        int players = 0;
        for (int p = 0; p < n; p++) {
            players += passes(round, way, p, k) != passes(round, other, p, k) ? 1 : 0;
        }
        return players;
    }

    int reach(int round, int way, int j, int p, int side) {
        if (!named(round, 3) || !named(j, m) || !named(p, n)) {
            return UNKNOWN;
        }
        if (!named(way, 6) || !named(side, 2)) {
            return OUTSIDE;
        }
        if (pupil[j][p]) {
            return STATE;
        }
        int least = 99;
        int greatest = 0;
        int was = mark[round][j][p];
        boolean said = yes[round][j][p];
        for (int v = 1; v <= (way == 3 ? 2 : 100); v++) {
            tryOn(round, way, j, p, v);
            least = Math.min(least, placeOf(round, way, p));
            greatest = Math.max(greatest, placeOf(round, way, p));
        }
        mark[round][j][p] = was;
        yes[round][j][p] = said;
        return side == 0 ? least : greatest;
    }

    private void tryOn(int round, int way, int j, int p, int v) {
        if (way == 3) {
            yes[round][j][p] = v == 1;
        } else {
            mark[round][j][p] = v;
        }
    }

    int sway(int round, int way, int j, int k) {
        if (!named(round, 3) || !named(j, m)) {
            return UNKNOWN;
        }
        if (!named(way, 6) || k < 1 || k > 10) {
            return OUTSIDE;
        }
        int players = 0;
        for (int p = 0; p < n; p++) {
            players += !pupil[j][p] && couldMove(round, way, j, p, k) ? 1 : 0;
        }
        return players;
    }

    private boolean couldMove(int round, int way, int j, int p, int k) {
        boolean now = passes(round, way, p, k);
        boolean moved = false;
        int was = mark[round][j][p];
        boolean said = yes[round][j][p];
        for (int v = 1; v <= (way == 3 ? 2 : 100); v++) {
            tryOn(round, way, j, p, v);
            moved |= passes(round, way, p, k) != now;
        }
        mark[round][j][p] = was;
        yes[round][j][p] = said;
        return moved;
    }

    int weight(int round, int v) {
        if (!named(round, 3)) {
            return UNKNOWN;
        }
        return v < 0 || v > 10 ? OUTSIDE : swap(weight, round, v);
    }

    private static int swap(int[] row, int at, int v) {
        int was = row[at];
        row[at] = v;
        return was;
    }

    private long sum(int p) {
        long sum = 0;
        for (int round = 0; round < 3; round++) {
            if (weight[round] > 0 && marksOf(round, p).isEmpty()) {
                return NONE;
            }
            sum += weight[round] == 0 ? 0 : weight[round] * points(round, 0, p);
        }
        return sum;
    }

    int total(int p) {
        return named(p, n) ? Math.toIntExact(sum(p)) : UNKNOWN;
    }

    int last(int p) {
        if (!named(p, n)) {
            return UNKNOWN;
        }
        int place = 1;
        for (int q = 0; q < n; q++) {
            place += sum(q) > sum(p) ? 1 : 0;
        }
        return place;
    }

    int prize(int i, int v) {
        if (!named(i, 6)) {
            return UNKNOWN;
        }
        return v < 0 || v > 1000000 ? OUTSIDE : swap(prize, i, v);
    }

    int wins(int p) {
        if (!named(p, n)) {
            return UNKNOWN;
        }
        if (sum(p) == NONE) {
            return 0;
        }
        long shared = 0;
        int alike = 0;
        for (int q = 0; q < n; q++) {
            if (sum(q) == sum(p)) {
                int place = last(p) + alike;
                shared += place <= 6 ? prize[place - 1] : 0;
                alike++;
            }
        }
        return Math.toIntExact(shared / alike);
    }

    int rest() {
        int all = 0;
        for (int v : prize) {
            all += v;
        }
        for (int p = 0; p < n; p++) {
            all -= wins(p);
        }
        return all;
    }

    int work(int w, int v) {
        if (!named(w, 12)) {
            return UNKNOWN;
        }
        return v < 1 || v > 60 ? OUTSIDE : swap(minutes, w, v);
    }

    int programme(int p, int works) {
        if (!named(p, n)) {
            return UNKNOWN;
        }
        if (works < 1 || works > 4095) {
            return OUTSIDE;
        }
        if (programmes.get(p).size() == 3) {
            return FULL;
        }
        programmes.get(p).add(works);
        return programmes.get(p).size();
    }

    int plan(int least, int most, int times) {
        if (!named(least, 721) || !named(most, 721) || most < least || times < 1 || times > 3) {
            return OUTSIDE;
        }
        plan = null;
        int all = 1;
        for (int p = 0; p < n; p++) {
            all *= programmes.get(p).size();
        }
        for (int number = 0; number < all; number++) {
            int[] tried = choiceOf(number);
            if (isPlan(tried, least, most, times)) {
                plan = tried;
                return 1;
            }
        }
        return 0;
    }

    /** The choice of that number, as they stand by player 0, then player 1, and so on. */
    private int[] choiceOf(int number) {
        int[] choice = new int[n];
        int left = number;
        for (int p = n - 1; p >= 0; p--) {
            choice[p] = left % programmes.get(p).size();
            left /= programmes.get(p).size();
        }
        return choice;
    }

    private boolean isPlan(int[] choice, int least, int most, int times) {
        int[] often = new int[12];
        for (int p = 0; p < n; p++) {
            int together = 0;
            for (int w = 0; w < 12; w++) {
                if ((programmes.get(p).get(choice[p]) & 1 << w) != 0) {
                    together += minutes[w];
                    often[w]++;
                }
                if (often[w] > times) {
                    return false;
                }
            }
            if (together < least || together > most) {
                return false;
            }
        }
        return true;
    }

    int chosen(int p) {
        if (!named(p, n)) {
            return UNKNOWN;
        }
        return plan == null ? NONE : plan[p];
    }

    int heard(int w) {
        if (!named(w, 12)) {
            return UNKNOWN;
        }
        int times = 0;
        for (int p = 0; p < n && plan != null; p++) {
            times += (programmes.get(p).get(plan[p]) & 1 << w) != 0 ? 1 : 0;
        }
        return times;
    }

    int drawn(int lot, int i) {
        if (!named(i, n)) {
            return UNKNOWN;
        }
        int orders = 1;
        for (int k = 2; k <= n; k++) {
            orders *= k;
        }
        if (!named(lot, orders)) {
            return OUTSIDE;
        }
        int[] order = new int[n];
        for (int p = 0; p < n; p++) {
            order[p] = p;
        }
        for (int step = 0; step < lot; step++) {
            nextOrder(order);
        }
        return order[i];
    }

    private static void nextOrder(int[] order) {
        int at = order.length - 2;
        while (order[at] > order[at + 1]) {
            at--;
        }
        int with = order.length - 1;
        while (order[with] < order[at]) {
            with--;
        }
        int held = order[at];
        order[at] = order[with];
        order[with] = held;
        Arrays.sort(order, at + 1, order.length);
    }

    int count(int what) {
        int marks = 0;
        int said = 0;
        int pupils = 0;
        int sets = 0;
        for (int p = 0; p < n; p++) {
            sets += programmes.get(p).size();
            for (int j = 0; j < m; j++) {
                pupils += pupil[j][p] ? 1 : 0;
                for (int round = 0; round < 3; round++) {
                    marks += mark[round][j][p] != NONE ? 1 : 0;
                    said += yes[round][j][p] ? 1 : 0;
                }
            }
        }
        int[] all = {n, m, marks, said, pupils, sets};
        return named(what, 6) ? all[what] : OUTSIDE;
    }

    long digest() {
        List<Integer> numbers = new ArrayList<>(List.of(n, m));
        for (int round = 0; round < 3; round++) {
            for (int j = 0; j < m; j++) {
                for (int p = 0; p < n; p++) {
                    numbers.add(mark[round][j][p]);
                    numbers.add(yes[round][j][p] ? 1 : 0);
                }
            }
        }
        for (boolean[] row : pupil) {
            for (boolean is : row) {
                numbers.add(is ? 1 : 0);
            }
        }
        numbers.addAll(List.of(cuts, pull));
        for (int[] row : new int[][] {weight, prize, minutes}) {
            for (int v : row) {
                numbers.add(v);
            }
        }
        for (int p = 0; p < n; p++) {
            numbers.addAll(programmes.get(p));
            numbers.add(chosen(p));
        }
        long h = 193;
        for (int v : numbers) {
            h = 31 * h + v;
        }
        return h;
    }
}
