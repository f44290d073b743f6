/** Edges of the sights in part 4 of the terms and of promises 15 to 18: harder, forget, orders, ask. */
public final class EdgesOfOrdersTest {
    private static final Due DUE = new Due();

    private static final int OUTSIDE = StringNuts.OUTSIDE;
    private static final int FULL = StringNuts.FULL;
    private static final int NONE = StringNuts.NONE;

    private static final int LEAST = Integer.MIN_VALUE;
    private static final int GREATEST = Integer.MAX_VALUE;

    public static void main(String[] args) {
        eightAtMost();
        whichCanBeSeen();
        fullIsBehindOutside();
        sightsGo();
        noughtsAhead();
        hardestFirst();
        theFirstAndTheLast();
        howManyByCount();
        nothingFits();
        askedAtFirst();
        askedTheLeast();
        askedWithFewLeft();
        askedInVain();
        wrongNumbers();
        DUE.end();
    }

    private static StringNuts seen(int... pairs) {
        StringNuts x = new StringNuts();
        for (int pair : pairs) {
            DUE.that("harder(" + pair / 10 + ", " + pair % 10 + ") is taken", x.harder(pair / 10, pair % 10) > 0);
        }
        return x;
    }

    // ---- promises 15 and 16

    private static void eightAtMost() {
        DUE.sentence("SIGHTS, 8 at most: x is harder than y");
        StringNuts x = new StringNuts();
        for (int count = 1; count <= 8; count++) {
            DUE.is("the " + count + "th", x.harder(0, 1), count);
        }
        DUE.is("the ninth", x.harder(0, 1), FULL);
        DUE.is("the ninth, another one", x.harder(2, 3), FULL);
        DUE.is("sights", x.told(3), 8);
        DUE.is("what was refused is no sight", x.orders(-1), 60);
        StringNuts y = seen(1, 1, 1, 1, 1, 1, 1, 32);
        DUE.is("the eighth counts", y.orders(-1), 30);
    }

    private static void whichCanBeSeen() {
        DUE.sentence("OUTSIDE: x, y 0 to 4, both one; FULL.");
        for (int x = 0; x < 5; x++) {
            for (int y = 0; y < 5; y++) {
                StringNuts nuts = new StringNuts();
                DUE.is("harder(" + x + ", " + y + ")", nuts.harder(x, y), x == y ? OUTSIDE : 1);
                DUE.is("sights", nuts.told(3), x == y ? 0 : 1);
            }
        }
        for (int wrong : new int[] {-1, 5, 10, LEAST, GREATEST}) {
            StringNuts nuts = new StringNuts();
            DUE.is("harder(" + wrong + ", 0)", nuts.harder(wrong, 0), OUTSIDE);
            DUE.is("harder(4, " + wrong + ")", nuts.harder(4, wrong), OUTSIDE);
            DUE.is("harder(" + wrong + ", " + wrong + ")", nuts.harder(wrong, wrong), OUTSIDE);
            DUE.is("sights", nuts.told(3), 0);
        }
    }

    private static void fullIsBehindOutside() {
        DUE.sentence("both one; FULL.");
        StringNuts x = seen(1, 1, 1, 1, 1, 1, 1, 1);
        DUE.is("harder(2, 2), full", x.harder(2, 2), OUTSIDE);
        DUE.is("harder(5, 0), full", x.harder(5, 0), OUTSIDE);
        DUE.is("harder(0, -1), full", x.harder(0, -1), OUTSIDE);
        DUE.is("harder(0, 2), full", x.harder(0, 2), FULL);
    }

    private static void sightsGo() {
        DUE.sentence("SIGHTS go: how many there were.");
        StringNuts x = new StringNuts();
        DUE.is("forget(), none", x.forget(), 0);
        x.harder(0, 1);
        DUE.is("forget(), one", x.forget(), 1);
        DUE.is("forget(), none again", x.forget(), 0);
        for (int count = 0; count < 8; count++) {
            x.harder(4, 3);
        }
        DUE.is("forget(), eight", x.forget(), 8);
        DUE.is("sights", x.told(3), 0);
        DUE.is("all orders fit", x.orders(-1), 120);
        DUE.is("harder(0, 1), where it was full", x.harder(0, 1), 1);
        DUE.is("the old ones are gone", x.orders(-1), 60);
    }

    // ---- promise 17

    private static void noughtsAhead() {
        DUE.sentence("(as numbers; noughts ahead vanish)");
        DUE.is("orders(0): 01234", new StringNuts().orders(0), 1234);
        DUE.is("orders(23): 04321, the last with a nought ahead", new StringNuts().orders(23), 4321);
        DUE.is("orders(24): 10234, the first without", new StringNuts().orders(24), 10234);
    }

    private static void hardestFirst() {
        DUE.sentence("rows of all five, the hardest first");
        DUE.is("a harder than b harder than c, d, e", seen(1, 12, 23, 34).orders(0), 1234);
        DUE.is("e harder than d harder than c, b, a", seen(43, 32, 21, 10).orders(0), 43210);
        DUE.is("one order fits", seen(43, 32, 21, 10).orders(-1), 1);
        DUE.is("there is no other", seen(43, 32, 21, 10).orders(1), NONE);
    }

    private static void theFirstAndTheLast() {
        DUE.sentence("how many; the i-th (rising)");
        StringNuts x = new StringNuts();
        DUE.is("orders(-1)", x.orders(-1), 120);
        DUE.is("orders(119)", x.orders(119), 43210);
        DUE.is("orders(120)", x.orders(120), NONE);
        DUE.is("orders(-2)", x.orders(-2), NONE);
        DUE.is("orders(least)", x.orders(LEAST), NONE);
        DUE.is("orders(greatest)", x.orders(GREATEST), NONE);
        int last = -1;
        for (int i = 0; i < 120; i++) {
            int order = x.orders(i);
            DUE.that("orders(" + i + ") rises", order > last);
            last = order;
        }
    }

    private static void howManyByCount() {
        DUE.sentence("by which all SIGHTS are so: how many");
        StringNuts x = seen(1, 12);
        DUE.is("orders(-1)", x.orders(-1), 20);
        DUE.is("orders(19)", x.orders(19), 43012);
        DUE.is("orders(20)", x.orders(20), NONE);
        DUE.is("the same sight twice", seen(1, 1).orders(-1), 60);
        DUE.is("what follows from others", seen(1, 12, 2).orders(-1), 20);
    }

    private static void nothingFits() {
        DUE.sentence("how many (i = -1), the i-th; NONE.");
        StringNuts x = seen(1, 10);
        DUE.is("orders(-1), both ways", x.orders(-1), 0);
        DUE.is("orders(0), both ways", x.orders(0), NONE);
        StringNuts y = seen(1, 12, 23, 34, 40);
        DUE.is("orders(-1), all in a ring", y.orders(-1), 0);
        DUE.is("orders(0), all in a ring", y.orders(0), NONE);
    }

    // ---- promise 18

    private static void askedAtFirst() {
        DUE.sentence("10 times x, and y, to ask about next (x less than y)");
        DUE.is("ask(0): a and b", new StringNuts().ask(0), 1);
        DUE.is("ask(1)", new StringNuts().ask(1), 60);
        StringNuts last = seen(1, 12, 2);
        DUE.is("ask(0): b and d", last.ask(0), 13);
        DUE.is("ask(1): 10 of 20", last.ask(1), 10);
        StringNuts greatest = seen(1, 12, 23, 24);
        DUE.is("ask(0): d and e", greatest.ask(0), 34);
        DUE.is("ask(1): 1 of 2", greatest.ask(1), 1);
    }

    private static void askedTheLeast() {
        DUE.sentence("fewest of these are left at the most: the least; how many");
        DUE.is("cd, ce, de halve what is left", seen(1).ask(0), 23);
        DUE.is("how many", seen(1).ask(1), 30);
        DUE.is("the other way the same", seen(10).ask(0), 23);
        DUE.is("e over d: ab, ac, bc", seen(43).ask(0), 1);
        DUE.is("5 left, a among the four others: 2 and 3", seen(43, 32, 21).ask(0), 2);
        DUE.is("3 at the most", seen(43, 32, 21).ask(1), 3);
    }

    private static void askedWithFewLeft() {
        DUE.sentence("whichever is harder, fewest of these are left at the most");
        StringNuts x = seen(1, 12, 23, 34);
        DUE.is("ask(0), one order is left: all pairs leave it", x.ask(0), 1);
        DUE.is("ask(1), one order is left", x.ask(1), 1);
    }

    private static void askedInVain() {
        DUE.sentence("NONE: nothing fits. OUTSIDE.");
        StringNuts x = seen(1, 10);
        DUE.is("ask(0)", x.ask(0), NONE);
        DUE.is("ask(1)", x.ask(1), NONE);
        DUE.is("ask(2)", x.ask(2), OUTSIDE);
        DUE.is("ask(-1)", x.ask(-1), OUTSIDE);
        x.forget();
        DUE.is("ask(0), all fit again", x.ask(0), 1);
    }

    private static void wrongNumbers() {
        DUE.sentence("`int ask(int what)`");
        for (int wrong : new int[] {-1, 2, LEAST, GREATEST}) {
            DUE.is("ask(" + wrong + ")", new StringNuts().ask(wrong), OUTSIDE);
        }
    }
}
