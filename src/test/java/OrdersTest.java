/** Promises 15 to 18: harder, forget, orders, ask. */
public final class OrdersTest {
    private static final Due DUE = new Due();

    public static void main(String[] args) {
        harder();
        orders();
        ask();
        allSights();
        DUE.end();
    }

    private static void harder() {
        StringNuts x = new StringNuts();
        DUE.is("forget() of nothing", x.forget(), 0);
        int[][] wrong = {{-1, 0}, {0, -1}, {5, 0}, {0, 5}, {2, 2}, {Integer.MAX_VALUE, 0}, {0, Integer.MIN_VALUE}};
        for (int[] w : wrong) {
            DUE.is("harder(" + w[0] + ", " + w[1] + ")", x.harder(w[0], w[1]), StringNuts.OUTSIDE);
        }
        for (int count = 1; count <= 8; count++) {
            DUE.is("harder(4, 0), the " + count + "th", x.harder(4, 0), count);
        }
        DUE.is("harder(4, 1), full", x.harder(4, 1), StringNuts.FULL);
        DUE.is("harder(4, 4), full", x.harder(4, 4), StringNuts.OUTSIDE);
        DUE.is("sights", x.told(3), 8);
        DUE.is("the same sight eight times", x.orders(-1), 60);
        DUE.is("forget()", x.forget(), 8);
        DUE.is("forget() again", x.forget(), 0);
        DUE.is("sights", x.told(3), 0);
        DUE.is("all orders fit again", x.orders(-1), 120);
        DUE.is("harder(0, 4)", x.harder(0, 4), 1);
        DUE.is("old sights are gone", x.orders(-1), 60);
    }

    private static void orders() {
        StringNuts x = new StringNuts();
        DUE.is("orders(-1)", x.orders(-1), 120);
        DUE.is("orders(0)", x.orders(0), 1234);
        DUE.is("orders(23)", x.orders(23), 4321);
        DUE.is("orders(24)", x.orders(24), 10234);
        DUE.is("orders(119)", x.orders(119), 43210);
        DUE.is("orders(120)", x.orders(120), StringNuts.NONE);
        DUE.is("orders(-2)", x.orders(-2), StringNuts.NONE);
        DUE.is("orders(least)", x.orders(Integer.MIN_VALUE), StringNuts.NONE);
        DUE.is("orders(greatest)", x.orders(Integer.MAX_VALUE), StringNuts.NONE);
        for (int i = 1; i < 120; i++) {
            DUE.that("orders rise at " + i, x.orders(i) > x.orders(i - 1));
        }
        x.harder(4, 0);
        DUE.is("orders(0), e is harder than a", x.orders(0), 12340);
        DUE.is("orders(59)", x.orders(59), 43210);
        DUE.is("orders(60)", x.orders(60), StringNuts.NONE);
        x.harder(0, 4);
        DUE.is("orders(-1), both ways", x.orders(-1), 0);
        DUE.is("orders(0), both ways", x.orders(0), StringNuts.NONE);
    }

    private static void ask() {
        StringNuts x = new StringNuts();
        DUE.is("ask(0) at first", x.ask(0), 1);
        DUE.is("ask(1) at first", x.ask(1), 60);
        DUE.is("ask(-1)", x.ask(-1), StringNuts.OUTSIDE);
        DUE.is("ask(2)", x.ask(2), StringNuts.OUTSIDE);
        x.harder(0, 1);
        DUE.is("ask(0), a over b: c and d halve what is left", x.ask(0), 23);
        DUE.is("ask(1)", x.ask(1), 30);
        x.harder(1, 2);
        x.harder(2, 3);
        x.harder(3, 4);
        DUE.is("ask(0), one order is left", x.ask(0), 1);
        DUE.is("ask(1), one order is left", x.ask(1), 1);
        x.harder(4, 0);
        DUE.is("ask(0), nothing fits", x.ask(0), StringNuts.NONE);
        DUE.is("ask(1), nothing fits", x.ask(1), StringNuts.NONE);
        DUE.is("ask(2), nothing fits", x.ask(2), StringNuts.OUTSIDE);
    }

    /** All pairs and threes of sights, compared with the model. */
    private static void allSights() {
        for (int code = 0; code < 25 * 25 * 25; code += 3) {
            StringNuts x = new StringNuts();
            Model model = new Model();
            for (int rest = code, i = 0; i < 3; i++, rest /= 25) {
                x.harder(rest % 5, rest / 5 % 5);
                model.harder(rest % 5, rest / 5 % 5);
            }
            String sights = "sights " + code + ": ";
            int i = code % 37;
            DUE.is(sights + "orders(-1)", x.orders(-1), model.orders(-1));
            DUE.is(sights + "orders(" + i + ")", x.orders(i), model.orders(i));
            if (code % 5 == 0) {
                DUE.is(sights + "ask(0)", x.ask(0), model.ask(0));
                DUE.is(sights + "ask(1)", x.ask(1), model.ask(1));
            }
        }
    }
}
