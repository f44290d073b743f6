import java.math.BigInteger;
import java.util.HashMap;
import java.util.Map;
import java.util.Set;
import java.util.TreeSet;

/** Promises 19 to 21: row, lot, year. */
public final class RowsLotsYearsTest {
    private static final Due DUE = new Due();

    public static void main(String[] args) {
        rowsThatAreLost();
        rowsPlayed();
        rowRefusals();
        rowsInAnyOrder();
        lots();
        lotsBySettings();
        allLots();
        lotRefusals();
        years();
        yearRefusals();
        DUE.end();
    }

    /** Known of this game (Dawson's Kayles): the lost rows go by 34, but for three. */
    private static void rowsThatAreLost() {
        Set<Integer> lost = new TreeSet<>(Set.of(0, 14, 34));
        for (int n = 0; n < 100; n++) {
            if (Set.of(4, 8, 20, 24, 28).contains(n % 34)) {
                lost.add(n);
            }
        }
        StringNuts x = new StringNuts();
        for (int n = 0; n < 100; n++) {
            DUE.is("row(" + n + ", 0)", x.row(n, 0), lost.contains(n) ? 0 : 1);
            DUE.that("row(" + n + ", 1) is none just if it is lost", (x.row(n, 1) == -6) == lost.contains(n));
        }
    }

    private static final Map<Integer, Boolean> WON = new HashMap<>();

    /** Whether who is to take can win, the nuts that are there being bits. */
    private static boolean won(int there) {
        Boolean known = WON.get(there);
        if (known == null) {
            known = false;
            for (int i = 0; i < 20 && !known; i++) {
                known = (there >> i & 1) == 1 && !won(taken(there, i));
            }
            WON.put(there, known);
        }
        return known;
    }

    private static int taken(int there, int i) {
        int gone = 1 << i | 1 << i + 1 | (i > 0 ? 1 << i - 1 : 0);
        return there & ~gone;
    }

    private static void rowsPlayed() {
        for (int n = 0; n <= 20; n++) {
            StringNuts x = new StringNuts();
            int all = (1 << n) - 1;
            int first = -6;
            for (int i = n - 1; i >= 0; i--) {
                if (!won(taken(all, i))) {
                    first = i;
                }
            }
            DUE.is("row(" + n + ", 1)", x.row(n, 1), first);
            DUE.is("row(" + n + ", 0)", x.row(n, 0), won(all) ? 1 : 0);
        }
    }

    private static void rowRefusals() {
        StringNuts x = new StringNuts();
        int[][] wrong = {{-1, 0}, {100, 1}, {5, -1}, {5, 2}, {Integer.MAX_VALUE, 0}, {Integer.MIN_VALUE, 1}};
        for (int[] w : wrong) {
            DUE.is("row(" + w[0] + ", " + w[1] + ")", x.row(w[0], w[1]), StringNuts.OUTSIDE);
        }
        DUE.is("row(0, 0)", x.row(0, 0), 0);
        DUE.is("row(0, 1)", x.row(0, 1), StringNuts.NONE);
        DUE.is("row(2, 1)", x.row(2, 1), 0);
    }

    private static void rowsInAnyOrder() {
        StringNuts up = new StringNuts();
        StringNuts down = new StringNuts();
        Model model = new Model();
        for (int n = 0; n < 100; n++) {
            DUE.is("row(" + n + ", 1) going up", up.row(n, 1), model.row(n, 1));
            DUE.is("row(" + (99 - n) + ", 1) going down", down.row(99 - n, 1), model.row(99 - n, 1));
        }
    }

    private static void lot(int k, int i, int r, int what, long upper, long lower) {
        StringNuts x = new StringNuts();
        String call = "lot(" + k + ", " + i + ", " + r + ", " + what + ", ";
        DUE.is(call + "0)", x.lot(k, i, r, what, 0), upper);
        DUE.is(call + "1)", x.lot(k, i, r, what, 1), lower);
    }

    private static void lots() {
        lot(1, 0, 1, 0, 1, 1);
        lot(1, 1, 1, 0, 0, 1);
        lot(1, 1, 0, 0, 1, 1);
        lot(2, 1, 1, 0, 2, 3);
        lot(2, 1, 2, 0, 0, 1);
        lot(2, 2, 1, 0, 1, 3);
        lot(2, 1, 0, 1, 2, 3);
        lot(5, 0, 5, 0, 1, 1);
        lot(5, 0, 3, 1, 5, 1);
        lot(5, 31, 0, 0, 1, 1);
        lot(5, 31, 5, 1, 0, 1);
        lot(5, 1, 4, 0, 16, 31);
        lot(3, 1, 3, 0, 0, 1);
        lot(3, 1, 2, 0, 4, 7);
    }

    /** All settings of up to eight, each with its fights told one by one. */
    private static void lotsBySettings() {
        for (int k = 1; k <= 3; k++) {
            int size = 1 << k;
            long[][] times = new long[size][k + 1];
            long settings = set(new int[size], 0, 0, times);
            for (int i = 0; i < size; i++) {
                long fights = 0;
                for (int r = 0; r <= k; r++) {
                    long atLeast = 0;
                    for (int wins = r; wins <= k; wins++) {
                        atLeast += times[i][wins];
                    }
                    fights += r * times[i][r];
                    lotInLowest(k, i, r, 0, atLeast, settings);
                }
                lotInLowest(k, i, k, 1, fights, settings);
            }
        }
    }

    private static void lotInLowest(int k, int i, int r, int what, long upper, long lower) {
        long common = BigInteger.valueOf(upper).gcd(BigInteger.valueOf(lower)).longValue();
        lot(k, i, r, what, upper / common, lower / common);
    }

    private static long set(int[] line, int size, int used, long[][] times) {
        if (size == line.length) {
            for (int place = 0; place < size; place++) {
                times[line[place]][winsAt(line, place)]++;
            }
            return 1;
        }
        long settings = 0;
        for (int i = 0; i < line.length; i++) {
            if ((used >> i & 1) == 0) {
                line[size] = i;
                settings += set(line, size + 1, used | 1 << i, times);
            }
        }
        return settings;
    }

    private static int winsAt(int[] line, int place) {
        int wins = 0;
        for (int part = 2; part <= line.length; part *= 2) {
            int from = place / part * part;
            for (int other = from; other < from + part; other++) {
                if (line[other] < line[place]) {
                    return wins;
                }
            }
            wins++;
        }
        return wins;
    }

    private static void allLots() {
        Model model = new Model();
        for (int k = 1; k <= 5; k++) {
            for (int i = 0; i < 1 << k; i++) {
                StringNuts x = new StringNuts();
                for (int r = 0; r <= k; r++) {
                    for (int rest = 0; rest < 4; rest++) {
                        int what = rest / 2;
                        int part = rest % 2;
                        DUE.is("lot(" + k + ", " + i + ", " + r + ", " + what + ", " + part + ")",
                                x.lot(k, i, r, what, part), model.lot(k, i, r, what, part));
                    }
                }
            }
        }
    }

    private static void lotRefusals() {
        StringNuts x = new StringNuts();
        int[][] wrong = {
            {0, 0, 0, 0, 0}, {6, 0, 0, 0, 0}, {2, -1, 0, 0, 0}, {2, 4, 0, 0, 0}, {1, 2, 0, 0, 1}, {5, 32, 0, 0, 0},
            {2, 0, -1, 0, 0}, {2, 0, 3, 0, 0}, {2, 0, 3, 1, 0}, {5, 0, 6, 1, 1}, {2, 0, 0, -1, 0}, {2, 0, 0, 2, 0},
            {2, 0, 0, 0, -1}, {2, 0, 0, 0, 2}, {Integer.MAX_VALUE, 0, 0, 0, 0}, {Integer.MIN_VALUE, 0, 0, 0, 0},
            {33, 0, 0, 0, 0}, {2, Integer.MAX_VALUE, 0, 0, 0}, {2, 0, Integer.MIN_VALUE, 1, 0}};
        for (int[] w : wrong) {
            DUE.is("lot(" + w[0] + ", " + w[1] + ", " + w[2] + ", " + w[3] + ", " + w[4] + ")",
                    x.lot(w[0], w[1], w[2], w[3], w[4]), -1000000000000000002L);
        }
    }

    private static void years() {
        StringNuts x = new StringNuts();
        // seed 0: x becomes 74: nut 4, 7 by tens: a day
        DUE.is("year(0, 1, 0)", x.year(0, 1, 0), 0);
        DUE.is("year(0, 1, 1)", x.year(0, 1, 1), 1);
        DUE.is("year(0, 1, 2)", x.year(0, 1, 2), 3);
        Model model = new Model();
        for (int seed = 0; seed <= 9999; seed += seed < 60 ? 1 : 119) {
            for (int what = 0; what < 3; what++) {
                int m = seed % 3 == 0 ? 99 : 1 + seed % 99;
                DUE.is("year(" + seed + ", " + m + ", " + what + ")", x.year(seed, m, what), model.year(seed, m, what));
            }
        }
        for (int what = 0; what < 60; what++) {
            DUE.is("nothing is done in fact: told(" + what + ")", x.told(what), model.told(what));
        }
        yearsGoOnFromNow();
    }

    /** From all as it is: the nuts, and the day, behind which no day can be. */
    private static void yearsGoOnFromNow() {
        StringNuts x = new StringNuts();
        Model model = new Model();
        for (int i = 0; i < 99; i++) {
            x.say('.');
            model.say('.');
            if (i % 50 == 48) {
                x.done();
                model.done();
            }
        }
        DUE.is("the day", x.told(2), 99);
        for (int nut = 0; nut < 10; nut++) {
            x.nut(nut, 40 + nut % 3, nut % 3, nut % 4);
            model.nut(nut, 40 + nut % 3, nut % 3, nut % 4);
        }
        Due.say(x, "A>BA>B");
        for (int seed = 0; seed < 120; seed++) {
            for (int what = 0; what < 3; what++) {
                DUE.is("year(" + seed + ", 99, " + what + ") from day 99",
                        x.year(seed, 99, what), model.year(seed, 99, what));
            }
        }
        DUE.is("the pad stays", x.told(0), 6);
    }

    private static void yearRefusals() {
        StringNuts x = new StringNuts();
        int[][] wrong = {{-1, 5, 0}, {10000, 5, 0}, {0, 0, 0}, {0, 100, 0}, {0, 5, -1}, {0, 5, 3},
            {Integer.MAX_VALUE, 5, 0}, {0, Integer.MIN_VALUE, 0}, {0, 5, Integer.MAX_VALUE}};
        for (int[] w : wrong) {
            DUE.is("year(" + w[0] + ", " + w[1] + ", " + w[2] + ")", x.year(w[0], w[1], w[2]), StringNuts.OUTSIDE);
        }
    }
}
