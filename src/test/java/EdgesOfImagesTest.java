/** Edges of promises 22 to 24: image, restore, told. */
public final class EdgesOfImagesTest {
    private static final Due DUE = new Due();
    private static final Twins TWINS = new Twins(DUE);

    private static final int OUTSIDE = StringNuts.OUTSIDE;
    private static final int STATE = StringNuts.STATE;
    private static final int FULL = StringNuts.FULL;
    private static final int NONE = StringNuts.NONE;

    private static final int LEAST = Integer.MIN_VALUE;
    private static final int GREATEST = Integer.MAX_VALUE;

    public static void main(String[] args) {
        whichImages();
        notKept();
        keptEmpty();
        keptFull();
        padIsNotKept();
        eachIsItsOwn();
        keptAnew();
        restoredTwice();
        allThatIsKept();
        toldNumbers();
        toldOfThePad();
        toldAsItIs();
        DUE.end();
    }

    // ---- promises 22 and 23

    private static void whichImages() {
        DUE.sentence("All but the PAD is kept in an IMAGE (0, 1): 1. OUTSIDE.");
        DUE.is("image(0)", new StringNuts().image(0), 1);
        DUE.is("image(1)", new StringNuts().image(1), 1);
        for (int wrong : new int[] {-1, 2, LEAST, GREATEST}) {
            StringNuts x = new StringNuts();
            DUE.is("image(" + wrong + ")", x.image(wrong), OUTSIDE);
            DUE.is("restore(0), nothing was kept", x.restore(0), STATE);
            DUE.is("restore(1), nothing was kept", x.restore(1), STATE);
            x.image(0);
            x.image(1);
            DUE.is("restore(" + wrong + ")", x.restore(wrong), OUTSIDE);
        }
    }

    private static void notKept() {
        DUE.sentence("OUTSIDE; STATE: it was not.");
        StringNuts x = new StringNuts();
        DUE.is("restore(0), none kept", x.restore(0), STATE);
        DUE.is("restore(1), none kept", x.restore(1), STATE);
        DUE.is("restore(2), none kept", x.restore(2), OUTSIDE);
        DUE.is("restore(-1), none kept", x.restore(-1), OUTSIDE);
        x.nut(0, 50, 1, 2);
        x.image(1);
        DUE.is("restore(0), 1 kept", x.restore(0), STATE);
        DUE.is("restore(1), 1 kept", x.restore(1), 1);
        StringNuts y = new StringNuts();
        y.image(0);
        DUE.is("restore(1), 0 kept", y.restore(1), STATE);
        DUE.is("restore(0), 0 kept", y.restore(0), 1);
    }

    private static void keptEmpty() {
        DUE.sentence("It is as it was when it was kept: 1.");
        StringNuts x = new StringNuts();
        x.image(0);
        DUE.doDays(x, "B>AB>AB>A.");
        x.harder(0, 1);
        DUE.is("restore(0)", x.restore(0), 1);
        StringNuts y = new StringNuts();
        y.image(0);
        TWINS.alike("a new object, kept", x, y);
    }

    private static void keptFull() {
        DUE.sentence("It is as it was when it was kept: 1.");
        StringNuts x = new StringNuts();
        for (int count = 0; count < 8; count++) {
            x.harder(3, 4);
        }
        x.image(0);
        x.forget();
        x.harder(4, 3);
        DUE.is("restore(0)", x.restore(0), 1);
        DUE.is("sights", x.told(3), 8);
        DUE.is("harder(0, 1), full again", x.harder(0, 1), FULL);
        DUE.is("the last order that fits: d is harder than e", x.orders(59), 34210);
    }

    private static void padIsNotKept() {
        DUE.sentence("All but the PAD is kept");
        StringNuts x = new StringNuts();
        Due.say(x, "A1");
        x.image(0);
        DUE.is("signs stay", x.told(0), 2);
        x.wipe();
        DUE.is("restore(0)", x.restore(0), 1);
        DUE.is("an empty pad stays empty", x.told(0), 0);
        Due.sayTimes(x, '.', 60);
        x.restore(0);
        DUE.is("a full pad stays full", x.told(0), 60);
        DUE.is("say('.')", x.say('.'), FULL);
        DUE.is("its days are as said", x.street(1), 60);
        Due.sayAnew(x, "A");
        x.restore(0);
        DUE.is("a fault stays", x.fault(), 1);
    }

    private static void eachIsItsOwn() {
        DUE.sentence("kept in an IMAGE (0, 1)");
        StringNuts x = new StringNuts();
        x.nut(0, 10, 0, 0);
        x.image(0);
        x.nut(0, 20, 1, 1);
        x.image(1);
        x.nut(0, 30, 2, 2);
        DUE.is("restore(0)", x.restore(0), 1);
        DUE.is("hard of A in 0", x.told(10), 10);
        DUE.is("restore(1)", x.restore(1), 1);
        DUE.is("hard of A in 1", x.told(10), 20);
        DUE.is("restore(0) again: 0 is no part of 1", x.restore(0), 1);
        DUE.is("hard of A in 0 again", x.told(10), 10);
    }

    private static void keptAnew() {
        DUE.sentence("It is as it was when it was kept: 1.");
        StringNuts x = new StringNuts();
        x.nut(0, 10, 0, 0);
        DUE.is("image(0)", x.image(0), 1);
        x.nut(0, 20, 1, 1);
        DUE.is("image(0) anew", x.image(0), 1);
        x.nut(0, 30, 2, 2);
        x.restore(0);
        DUE.is("hard of A, as kept last", x.told(10), 20);
        DUE.is("cracks of A, as kept last", x.told(20), 1);
    }

    private static void restoredTwice() {
        DUE.sentence("It is as it was when it was kept: 1.");
        StringNuts x = new StringNuts();
        x.harder(1, 0);
        x.image(1);
        for (int time = 0; time < 2; time++) {
            DUE.doDays(x, "B>AB>AB>A.C0");
            x.nut(9, 1, 1, 3);
            x.harder(2, 1);
            DUE.is("restore(1)", x.restore(1), 1);
            DUE.is("broken", x.told(1), 0);
            DUE.is("the day", x.told(2), 0);
            DUE.is("sights", x.told(3), 1);
            DUE.is("hard of J", x.told(19), 95);
            DUE.is("cracks of A", x.told(20), 0);
            DUE.is("score of B", x.told(31), 1);
            DUE.is("child of C", x.told(42), 2);
            DUE.is("in B", x.told(51), 2);
            DUE.is("orders", x.orders(-1), 60);
        }
    }

    private static void allThatIsKept() {
        DUE.sentence("All but the PAD is kept");
        StringNuts x = new StringNuts();
        DUE.doDays(x, "B>AB>AB>A..C0J*");
        x.harder(1, 0);
        x.harder(0, 4);
        x.image(0);
        DUE.doDays(x, "D>BD>BD>B...D0E*");
        x.nut(0, 77, 1, 3);
        x.forget();
        x.harder(0, 1);
        x.restore(0);
        StringNuts y = new StringNuts();
        DUE.doDays(y, "B>AB>AB>A..C0J*");
        y.harder(1, 0);
        y.harder(0, 4);
        y.image(0);
        TWINS.alike("restored", x, y);
    }

    // ---- promise 24

    private static void toldNumbers() {
        DUE.sentence("50 and a NUT: what is IN it (bits). OUTSIDE.");
        StringNuts x = new StringNuts();
        for (int wrong : new int[] {-1, 4, 5, 6, 7, 8, 9, 60, 61, 69, 100, -10, LEAST, GREATEST}) {
            DUE.is("told(" + wrong + ")", x.told(wrong), OUTSIDE);
        }
        int[] right = {0, 1, 2, 3, 10, 19, 20, 29, 30, 39, 40, 49, 50, 59};
        int[] want = {0, 0, 0, 0, 5, 95, 0, 0, 1, 1, 0, 1, 1, 512};
        for (int i = 0; i < right.length; i++) {
            DUE.is("told(" + right[i] + ")", x.told(right[i]), want[i]);
        }
    }

    private static void toldOfThePad() {
        DUE.sentence("0 signs, 1 BROKEN ones (bits), 2 the day, 3 SIGHTS");
        StringNuts x = new StringNuts();
        Due.sayTimes(x, '.', 60);
        for (int count = 0; count < 8; count++) {
            x.harder(0, 1);
        }
        DUE.is("told(0), full", x.told(0), 60);
        DUE.is("told(3), full", x.told(3), 8);
        DUE.is("told(2), not done yet", x.told(2), 0);
        x.done();
        DUE.is("told(0), done", x.told(0), 0);
        DUE.is("told(2), done", x.told(2), 60);
        Due.sayTimes(x, '.', 39);
        x.done();
        DUE.is("told(2), the last day", x.told(2), 99);
        DUE.is("told(1), all", DaysTest.allBroken().told(1), 1023);
    }

    private static void toldAsItIs() {
        DUE.sentence("20 and a NUT: CRACKS (3: BROKEN)");
        StringNuts x = new StringNuts();
        x.nut(0, 5, 2, 0);
        DUE.is("told(20), two", x.told(20), 2);
        Due.say(x, "B>A");
        DUE.is("told(20), not done yet", x.told(20), 2);
        DUE.is("told(31), not done yet", x.told(31), 1);
        x.done();
        DUE.is("told(20), broken", x.told(20), 3);
        DUE.is("told(1)", x.told(1), 1);
        DUE.is("told(30), it keeps its score", x.told(30), 1);
        DUE.is("told(40), it is his, still", x.told(40), 0);
        DUE.is("told(50)", x.told(50), 1);
        DUE.is("told(31)", x.told(31), 2);
        DUE.is("told(51)", x.told(51), 3);
        DUE.is("street(2)", x.street(2), 1);
        DUE.is("round(0, 0)", x.round(0, 0), NONE);
    }
}
