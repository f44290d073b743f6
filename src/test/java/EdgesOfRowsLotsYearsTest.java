import java.math.BigInteger;

/** Edges of rows, lots and years in part 4 of the terms and of promises 19 to 21. */
public final class EdgesOfRowsLotsYearsTest {
    private static final Due DUE = new Due();

    private static final int OUTSIDE = StringNuts.OUTSIDE;
    private static final int NONE = StringNuts.NONE;
    private static final long GONE_OUTSIDE = -1000000000000000002L;

    private static final int LEAST = Integer.MIN_VALUE;
    private static final int GREATEST = Integer.MAX_VALUE;

    public static void main(String[] args) {
        shortestAndLongestRows();
        gapsStay();
        takenFirst();
        rowNumbers();
        cupSizes();
        ranks();
        fightsWon();
        theMean();
        meansInAll();
        lotWhatAndPart();
        seeds();
        howManyActs();
        drawsOfEachKind();
        drawsOfDays();
        drawsThatCanNotBe();
        leftOver();
        yearsFromAllAsItIs();
        yearsOfNone();
        yearWhat();
        nothingIsDone();
        DUE.end();
    }

    // ---- promise 19

    private static void row(int n, int whether, int which) {
        StringNuts x = new StringNuts();
        DUE.is("row(" + n + ", 0)", x.row(n, 0), whether);
        DUE.is("row(" + n + ", 1)", x.row(n, 1), which);
    }

    private static void shortestAndLongestRows() {
        DUE.sentence("ROW of n NUTS (0 to 99)");
        row(0, 0, NONE);
        row(1, 1, 0);
        row(98, 1, 0);
        row(99, 1, 1);
    }

    private static void gapsStay() {
        DUE.sentence("(that lay beside it at first, if they are still there); the gaps stay; who can not has lost");
        // of five the middle one is taken: the two at the ends do not lie beside each other then
        row(5, 1, 2);
        row(3, 1, 1);
        row(4, 0, NONE);
        row(8, 0, NONE);
        row(14, 0, NONE);
        row(34, 0, NONE);
    }

    private static void takenFirst() {
        DUE.sentence("whether who begins can win (1, 0); which he takes first for it, the least (0 on; NONE)");
        row(2, 1, 0);
        row(6, 1, 0);
        row(7, 1, 1);
        row(13, 1, 6);
    }

    private static void rowNumbers() {
        DUE.sentence("ROW: whether (what = 0), which (1; NONE). OUTSIDE.");
        for (int wrong : new int[] {-1, 100, LEAST, GREATEST}) {
            DUE.is("row(" + wrong + ", 0)", new StringNuts().row(wrong, 0), OUTSIDE);
            DUE.is("row(" + wrong + ", 1)", new StringNuts().row(wrong, 1), OUTSIDE);
        }
        for (int wrong : new int[] {-1, 2, LEAST, GREATEST}) {
            DUE.is("row(5, " + wrong + ")", new StringNuts().row(5, wrong), OUTSIDE);
            DUE.is("row(0, " + wrong + ")", new StringNuts().row(0, wrong), OUTSIDE);
        }
    }

    // ---- promise 20

    private static void lot(int k, int i, int r, int what, long upper, long lower) {
        StringNuts x = new StringNuts();
        String call = "lot(" + k + ", " + i + ", " + r + ", " + what + ", ";
        DUE.is(call + "0)", x.lot(k, i, r, what, 0), upper);
        DUE.is(call + "1)", x.lot(k, i, r, what, 1), lower);
    }

    private static void noLot(int k, int i, int r, int what, int part) {
        DUE.is("lot(" + k + ", " + i + ", " + r + ", " + what + ", " + part + ")",
                new StringNuts().lot(k, i, r, what, part), GONE_OUTSIDE);
    }

    private static void cupSizes() {
        DUE.sentence("in a CUP of 2 doubled k less 1 times (k 1 to 5: 2 to 32)");
        lot(1, 0, 1, 0, 1, 1);
        lot(5, 30, 1, 0, 1, 31);
        for (int wrong : new int[] {0, 6, -1, 31, 32, 33, LEAST, GREATEST}) {
            noLot(wrong, 0, 0, 0, 0);
            noLot(wrong, 0, 0, 1, 1);
        }
    }

    private static void ranks() {
        DUE.sentence("OUTSIDE: k, i 0 to one less than all, r, what.");
        for (int k = 1; k <= 5; k++) {
            int all = 1 << k;
            lot(k, 0, k, 0, 1, 1);
            lot(k, all - 1, 1, 0, 0, 1);
            lot(k, all - 1, 0, 0, 1, 1);
            lot(k, all - 2, 1, 0, 1, all - 1);
            for (int wrong : new int[] {-1, all, LEAST, GREATEST}) {
                noLot(k, wrong, 0, 0, 0);
                noLot(k, wrong, 0, 1, 1);
            }
        }
    }

    private static void fightsWon() {
        DUE.sentence("that the i-th hardest (0 on) wins r FIGHTS (0 to k) at least");
        for (int k = 1; k <= 5; k++) {
            lot(k, 1, 0, 0, 1, 1);
            lot(k, 1, k, 0, 0, 1);
            for (int wrong : new int[] {-1, k + 1, LEAST, GREATEST}) {
                noLot(k, 1, wrong, 0, 0);
            }
        }
        // the second hardest of eight, the hardest being in the other half by 4 of 7
        lot(3, 1, 2, 0, 4, 7);
        lot(3, 4, 2, 0, 1, 35);
        lot(3, 5, 2, 0, 0, 1);
        lot(5, 16, 4, 0, 1, 300540195);
        lot(5, 17, 4, 0, 0, 1);
    }

    private static void theMean() {
        DUE.sentence("how many it wins in the mean (r is no matter, but as told)");
        for (int r = 0; r <= 2; r++) {
            lot(2, 1, r, 1, 2, 3);
        }
        for (int k = 1; k <= 5; k++) {
            lot(k, 0, 0, 1, k, 1);
            lot(k, 0, k, 1, k, 1);
            lot(k, (1 << k) - 1, 0, 1, 0, 1);
            for (int wrong : new int[] {-1, k + 1, LEAST, GREATEST}) {
                noLot(k, 0, wrong, 1, 0);
            }
        }
    }

    /** Each fight is won by one: the means of all, added, are one less than all. */
    private static void meansInAll() {
        DUE.sentence("each setting as likely, the harder one always wins");
        for (int k = 1; k <= 5; k++) {
            StringNuts x = new StringNuts();
            BigInteger upper = BigInteger.ZERO;
            BigInteger lower = BigInteger.ONE;
            for (int i = 0; i < 1 << k; i++) {
                BigInteger up = BigInteger.valueOf(x.lot(k, i, 0, 1, 0));
                BigInteger low = BigInteger.valueOf(x.lot(k, i, 0, 1, 1));
                DUE.that("lot(" + k + ", " + i + ", 0, 1, ..) is in lowest terms", up.gcd(low).equals(BigInteger.ONE));
                upper = upper.multiply(low).add(up.multiply(lower));
                lower = lower.multiply(low);
            }
            DUE.that("means of " + (1 << k) + ", added", upper.equals(lower.multiply(BigInteger.valueOf((1 << k) - 1))));
        }
    }

    private static void lotWhatAndPart() {
        DUE.sentence("LOT: r at least (what = 0), the mean (1).");
        for (int wrong : new int[] {-1, 2, LEAST, GREATEST}) {
            noLot(3, 1, 2, wrong, 0);
            noLot(3, 1, 2, wrong, 1);
            noLot(3, 1, 2, 0, wrong);
            noLot(3, 1, 2, 1, wrong);
        }
    }

    // ---- promise 21

    /** All of ten alike hard, with two cracks: a blow breaks the one that is struck. */
    private static StringNuts brittle(int hard) {
        StringNuts x = new StringNuts();
        for (int nut = 0; nut < 10; nut++) {
            x.nut(nut, hard, 2, nut % 4);
        }
        return x;
    }

    private static void year(StringNuts x, int seed, int m, int broken, int most, int scores) {
        String call = "year(" + seed + ", " + m + ", ";
        DUE.is(call + "0)", x.year(seed, m, 0), broken);
        DUE.is(call + "1)", x.year(seed, m, 1), most);
        DUE.is(call + "2)", x.year(seed, m, 2), scores);
    }

    private static void seeds() {
        DUE.sentence("A YEAR by a seed (0 to 9999)");
        // 0: 74, a day; 9999: 29092, C is child 3's, then 19253, D is child 0's
        year(new StringNuts(), 0, 1, 0, 1, 3);
        year(new StringNuts(), 9999, 1, 0, 1, 3);
        year(new StringNuts(), 9999, 2, 0, 1, 4);
        for (int wrong : new int[] {-1, 10000, LEAST, GREATEST}) {
            DUE.is("year(" + wrong + ", 5, 0)", new StringNuts().year(wrong, 5, 0), OUTSIDE);
        }
    }

    private static void howManyActs() {
        DUE.sentence("of m ACTS (1 to 99)");
        year(brittle(70), 13, 1, 8, 2, 3);
        // by seed 47 it is the 99th that breaks E
        year(new StringNuts(), 47, 98, 46, 2, 1);
        year(new StringNuts(), 47, 99, 62, 3, 0);
        for (int wrong : new int[] {0, 100, -1, LEAST, GREATEST}) {
            DUE.is("year(5, " + wrong + ", 0)", new StringNuts().year(5, wrong, 0), OUTSIDE);
        }
    }

    private static void drawsOfEachKind() {
        DUE.sentence("0 to 3 it strikes at NUT z left over by 10, 4 it is baked, 5 it is CHILD z left over by 4's");
        year(brittle(70), 13, 1, 0x8, 2, 3);     // 1049, 0: J at D
        year(brittle(70), 12, 1, 0x4, 2, 4);     // 974, 1: E at C
        year(brittle(70), 26, 1, 0x20, 2, 4);    // 2024, 2: E at F
        year(brittle(70), 7, 1, 0x80, 2, 3);     // 599, 3: J at H
        year(brittle(70), 6, 1, 0x10, 1, 2);     // 524, 4: E is baked
        year(brittle(59), 6, 1, 0, 1, 3);
        year(brittle(70), 20, 1, 0, 1, 2);       // 1574, 5: E is child 3's
        year(brittle(70), 9999, 2, 0, 1, 4);     // 19253, 5: D is child 0's
    }

    /** Where a day has been one of 59 is baked as one of 60: a third crack. */
    private static void drawsOfDays() {
        DUE.sentence("6, 7 a day");
        year(brittle(59), 1, 1, 0, 1, 3);        // 149, 6: a day
        year(brittle(59), 1, 2, 0x200, 1, 3);    // 11249: J is baked
        year(brittle(58), 1, 2, 0, 1, 3);
        year(brittle(59), 22, 2, 0, 1, 3);       // 1724: E is baked; 63837, 7: a day
        year(brittle(59), 22, 3, 0x100, 1, 2);   // 3648: I is baked
        year(brittle(58), 22, 3, 0, 1, 3);
    }

    private static void drawsThatCanNotBe() {
        DUE.sentence("each if that can be");
        year(brittle(70), 14, 1, 0, 1, 3);       // 1124: E at E
        year(brittle(70), 8, 1, 0, 1, 3);        // 674: E at I, one child's
        year(brittle(99), 6, 1, 0, 1, 3);        // 524: E is baked, hard by 99
        year(brittle(98), 6, 1, 0x10, 1, 2);
        year(brittle(70), 6, 2, 0x10, 1, 2);     // E is broken: 39374, E at C, can not be
        year(brittle(99), 6, 2, 0x4, 2, 4);      // E is not: it can
        year(brittle(70), 4, 1, 0, 1, 3);        // 374: E is child 0's already
        StringNuts last = brittle(1);
        Due.sayTimes(last, '.', 60);
        last.done();
        Due.sayTimes(last, '.', 39);
        last.done();
        DUE.is("the day", last.told(2), 99);
        last.nut(9, 59, 2, 1);
        DUE.is("no day behind day 99: J is baked at 59", last.year(1, 2, 0), 0);
        last.nut(9, 60, 2, 1);
        DUE.is("no day behind day 99: J is baked at 60", last.year(1, 2, 0), 0x200);
    }

    private static void leftOver() {
        DUE.sentence("x becomes (75 x and 74) left over by 65537");
        year(brittle(70), 871, 1, 0x80, 2, 3);   // 65399, below: J at H
        year(brittle(70), 872, 1, 0, 1, 3);      // 65474, below: E at I, one child's
        year(brittle(70), 873, 1, 0x1, 2, 2);    // 65549: 12 is left, C at A
        year(brittle(70), 874, 1, 0x2, 2, 3);    // 65624: 87 is left, H at B
        StringNuts x = brittle(70);
        x.nut(0, 70, 2, 2);
        year(x, 873, 1, 0, 1, 2);                // C at A, one child's: by 65536 it were D at A
        year(new StringNuts(), 9999, 99, 246, 2, 3);
    }

    private static void yearsFromAllAsItIs() {
        DUE.sentence("from all as it is");
        StringNuts x = new StringNuts();
        year(x, 12, 1, 0, 1, 3);                 // E at C: a crack
        x.nut(2, 25, 2, 2);
        year(x, 12, 1, 4, 2, 4);
        DUE.doDays(x, "E>CE1");
        year(x, 12, 1, 4, 2, 2);                 // C is broken already
        Due.say(x, "E0");
        year(x, 12, 1, 4, 2, 2);
    }

    private static void yearsOfNone() {
        DUE.sentence("the most SCORE that one has which is not (0)");
        year(DaysTest.allBroken(), 5, 90, 1023, 0, 0);
        StringNuts x = DaysTest.allBroken();
        x.nut(4, 1, 0, 0);
        year(x, 13, 1, 1023 - 16, 1, 1);
    }

    private static void yearWhat() {
        DUE.sentence("A YEAR: BROKEN (what = 0), the most (1), SCORES (2). OUTSIDE.");
        for (int wrong : new int[] {-1, 3, LEAST, GREATEST}) {
            DUE.is("year(5, 9, " + wrong + ")", new StringNuts().year(5, 9, wrong), OUTSIDE);
        }
    }

    private static void nothingIsDone() {
        DUE.sentence("Nothing is DONE in fact.");
        Twins twins = new Twins(DUE);
        twins.unchanged("year(13, 1, 0)", () -> brittle(70), x -> x.year(13, 1, 0), 8);
        twins.unchanged("year(47, 99, 1)", StringNuts::new, x -> x.year(47, 99, 1), 3);
        twins.unchanged("year(5, 90, 2), days on the pad", () -> Due.told("B>AC0.J*"), x -> x.year(5, 90, 2), 5);
    }
}
