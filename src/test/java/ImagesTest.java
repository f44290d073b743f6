/** Promises 22 to 24: image, restore, told. */
public final class ImagesTest {
    private static final Due DUE = new Due();

    public static void main(String[] args) {
        kept();
        twoImages();
        padStays();
        refusals();
        told();
        DUE.end();
    }

    private static int[] all(StringNuts x) {
        int[] all = new int[60];
        for (int what = 0; what < 60; what++) {
            all[what] = x.told(what);
        }
        return all;
    }

    private static void same(String when, StringNuts x, int[] want) {
        for (int what = 0; what < 60; what++) {
            DUE.is(when + ": told(" + what + ")", x.told(what), want[what]);
        }
    }

    private static void change(StringNuts x) {
        DUE.doDays(x, "C>BC>BC>B.J*D0");
        x.nut(9, 1, 1, 3);
        x.harder(1, 0);
    }

    private static void kept() {
        StringNuts x = new StringNuts();
        DUE.doDays(x, "B>AB>AB>A..");
        x.harder(0, 1);
        x.harder(0, 2);
        x.harder(3, 2);
        int[] before = all(x);
        int orders = x.orders(-1);
        int order = x.orders(7);
        DUE.is("image(1)", x.image(1), 1);
        change(x);
        x.forget();
        x.harder(4, 0);
        DUE.is("restore(1)", x.restore(1), 1);
        same("restored", x, before);
        DUE.is("how many orders", x.orders(-1), orders);
        DUE.is("which sights", x.orders(7), order);
        change(x);
        DUE.is("restore(1) again", x.restore(1), 1);
        same("restored again", x, before);
    }

    private static void twoImages() {
        StringNuts x = new StringNuts();
        int[] first = all(x);
        x.image(0);
        change(x);
        int[] second = all(x);
        x.image(1);
        x.restore(0);
        same("the first image", x, first);
        x.restore(1);
        same("the second image", x, second);
        x.image(0);
        x.nut(0, 50, 0, 0);
        x.restore(0);
        same("an image kept anew", x, second);
        int[] now = all(x);
        x.image(0);
        x.year(3, 99, 0);
        Due.say(x, "D0");
        DUE.is("done()", x.done(), StringNuts.STATE);
        x.wipe();
        same("years and refused days change nothing", x, now);
    }

    private static void padStays() {
        StringNuts x = new StringNuts();
        x.say('A');
        x.image(0);
        x.say('3');
        DUE.is("restore(0)", x.restore(0), 1);
        DUE.is("signs", x.told(0), 2);
        DUE.is("behind(0, 3)", x.behind(0, 3), 3);
        x.done();
        x.restore(0);
        DUE.is("signs, done", x.told(0), 0);
        DUE.is("whose", x.told(40), 0);
    }

    private static void refusals() {
        StringNuts x = new StringNuts();
        int[] wrong = {-1, 2, 3, Integer.MAX_VALUE, Integer.MIN_VALUE};
        for (int k : wrong) {
            DUE.is("image(" + k + ")", x.image(k), StringNuts.OUTSIDE);
            DUE.is("restore(" + k + ")", x.restore(k), StringNuts.OUTSIDE);
        }
        DUE.is("restore(0)", x.restore(0), StringNuts.STATE);
        x.image(0);
        DUE.is("restore(1)", x.restore(1), StringNuts.STATE);
        DUE.is("restore(0), kept", x.restore(0), 1);
    }

    private static void told() {
        StringNuts x = new StringNuts();
        int[] wrong = {-1, 4, 5, 9, 60, 61, 100, Integer.MAX_VALUE, Integer.MIN_VALUE};
        for (int what : wrong) {
            DUE.is("told(" + what + ")", x.told(what), StringNuts.OUTSIDE);
        }
        DUE.doDays(x, "B>AB>AB>A..");
        Due.say(x, "C1D");
        x.harder(0, 1);
        DUE.is("told(0)", x.told(0), 3);
        DUE.is("told(1)", x.told(1), 1);
        DUE.is("told(2)", x.told(2), 2);
        DUE.is("told(3)", x.told(3), 1);
        DUE.is("told(10)", x.told(10), 5);
        DUE.is("told(19)", x.told(19), 97);
        DUE.is("told(20)", x.told(20), 3);
        DUE.is("told(21)", x.told(21), 0);
        DUE.is("told(31)", x.told(31), 2);
        DUE.is("told(42): not what is on the pad", x.told(42), 2);
        DUE.is("told(51)", x.told(51), 3);
        DUE.is("told(59)", x.told(59), 512);
    }
}
