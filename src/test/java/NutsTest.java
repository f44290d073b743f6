/** Promises 1 to 5: a new object, nut, say, wipe, fault. */
public final class NutsTest {
    private static final Due DUE = new Due();

    public static void main(String[] args) {
        newObject();
        nut();
        nutIsAloneAgain();
        say();
        wipe();
        faults();
        everyShortText();
        DUE.end();
    }

    private static void newObject() {
        StringNuts x = new StringNuts();
        for (int nut = 0; nut < 10; nut++) {
            DUE.is("new told(1" + nut + ")", x.told(10 + nut), 10 * nut + 5);
            DUE.is("new told(2" + nut + ")", x.told(20 + nut), 0);
            DUE.is("new told(3" + nut + ")", x.told(30 + nut), 1);
            DUE.is("new told(4" + nut + ")", x.told(40 + nut), nut % 4);
            DUE.is("new told(5" + nut + ")", x.told(50 + nut), 1 << nut);
        }
        for (int what = 0; what < 4; what++) {
            DUE.is("new told(" + what + ")", x.told(what), 0);
        }
        DUE.is("new restore(0)", x.restore(0), StringNuts.STATE);
        DUE.is("new restore(1)", x.restore(1), StringNuts.STATE);
    }

    private static void nut() {
        StringNuts x = new StringNuts();
        DUE.is("nut(3, 99, 2, 1)", x.nut(3, 99, 2, 1), 1);
        DUE.is("its hard", x.told(13), 99);
        DUE.is("its cracks", x.told(23), 2);
        DUE.is("its child", x.told(43), 1);
        DUE.is("nut(9, 1, 0, 3)", x.nut(9, 1, 0, 3), 1);
        DUE.is("its hard", x.told(19), 1);
        int[][] wrong = {
            {-1, 5, 0, 0, -1}, {10, 5, 0, 0, -1}, {0, 5, 0, -1, -1}, {0, 5, 0, 4, -1}, {0, 0, 0, 4, -1},
            {10, 0, 3, 0, -1}, {0, 0, 0, 0, -2}, {0, 100, 0, 0, -2}, {0, 5, -1, 0, -2}, {0, 5, 3, 0, -2},
            {Integer.MIN_VALUE, 5, 0, 0, -1}, {0, Integer.MAX_VALUE, 0, 0, -2}};
        for (int[] w : wrong) {
            String call = "nut(" + w[0] + ", " + w[1] + ", " + w[2] + ", " + w[3] + ")";
            DUE.is(call, x.nut(w[0], w[1], w[2], w[3]), w[4]);
            DUE.is(call + " changes nothing", x.told(10), 5);
        }
    }

    private static void nutIsAloneAgain() {
        StringNuts x = new StringNuts();
        DUE.doDays(x, "B>AB>AB>AB>CB>EB>C");
        DUE.is("score of B", x.told(31), 2);
        DUE.is("score of B by nut", x.nut(1, 15, 0, 1), 2);
        DUE.is("B is a one", x.told(31), 1);
        DUE.is("B is alone in itself", x.told(51), 2);
        DUE.is("C has what it had", x.told(52), 7);
        DUE.is("score of C", x.told(32), 3);
        DUE.is("A is broken", x.told(1), 1);
        DUE.is("a broken one by nut: the score that it had", x.nut(0, 5, 2, 0), 1);
        DUE.is("A is not broken any more", x.told(1), 0);
        DUE.is("score of C by nut", x.nut(2, 25, 0, 2), 3);
        StringNuts y = new StringNuts();
        DUE.doDays(y, "B>AB>AB>A");
        y.nut(0, 5, 0, 0);
        DUE.doDays(y, "B>AB>AB>A");
        DUE.is("in B is A once more", y.told(51), 3);
        DUE.is("but it counts again", y.told(31), 3);
        y.nut(0, 50, 0, 0);
        DUE.doDays(y, "A>BA>BA>B");
        DUE.is("in A is what was in B, and A", y.told(50), 3);
        DUE.is("score of A", y.told(30), 4);
    }

    private static void say() {
        StringNuts x = new StringNuts();
        int[] wrong = {32, 127, 0, -1, -65, 321, Integer.MAX_VALUE, Integer.MIN_VALUE};
        for (int sign : wrong) {
            DUE.is("say(" + sign + ")", x.say(sign), StringNuts.OUTSIDE);
        }
        DUE.is("say(33)", x.say(33), 1);
        DUE.is("say(126)", x.say(126), 2);
        for (int count = 3; count <= 60; count++) {
            DUE.is("say(46), the " + count + "th", x.say(46), count);
        }
        DUE.is("say(46) on a full pad", x.say(46), StringNuts.FULL);
        DUE.is("say(32) on a full pad", x.say(32), StringNuts.OUTSIDE);
        DUE.is("signs", x.told(0), 60);
    }

    private static void wipe() {
        StringNuts x = new StringNuts();
        DUE.is("wipe() of nothing", x.wipe(), 0);
        Due.say(x, "A>B!");
        DUE.is("wipe()", x.wipe(), 4);
        DUE.is("wipe() again", x.wipe(), 0);
        DUE.is("signs", x.told(0), 0);
        DUE.is("fault()", x.fault(), StringNuts.NONE);
        DUE.is("no blow was struck", x.told(20), 0);
    }

    private static void faults() {
        Object[][] texts = {
            {"", -6}, {".", -6}, {"A>B", -6}, {"A*", -6}, {"J3", -6}, {"A0", -6}, {"A>A", -6}, {"J>J.J*", -6},
            {"A", 1}, {"A>", 2}, {".A", 2}, {"..A>", 4}, {"K", 0}, {"a", 0}, {"@", 0}, {"*", 0}, {">", 0},
            {"1", 0}, {"A.", 1}, {"AA", 1}, {"A4", 1}, {"A/", 1}, {"A>K", 2}, {"A>@", 2}, {"A>*", 2}, {"A>1", 2},
            {"A>>", 2}, {"A*B", 3}, {"A*>", 2}, {"A>BC", 4}, {"A>B>C", 3}, {"A12", 2}, {"A>.!", 2}, {"!!!", 0},
            {"A1B2C3D0E*F>G.H>I.", -6}};
        StringNuts x = new StringNuts();
        for (Object[] text : texts) {
            Due.sayAnew(x, (String) text[0]);
            DUE.is("fault() of \"" + text[0] + "\"", x.fault(), (Integer) text[1]);
        }
        x.wipe();
        for (int sign = 0; sign < 59; sign++) {
            x.say('.');
        }
        DUE.is("fault() of 59 days", x.fault(), StringNuts.NONE);
        x.say('A');
        DUE.is("fault() of a full pad whose last act is not whole", x.fault(), 60);
        DUE.is("say('1') there", x.say('1'), StringNuts.FULL);
    }

    /** All texts of up to three signs, of signs that stand at the edges of what is allowed. */
    private static void everyShortText() {
        String signs = "@AJK>*./034?!~";
        Model model = new Model();
        for (int code = 0; code < 15 * 15 * 15; code++) {
            StringBuilder text = new StringBuilder();
            for (int rest = code; rest > 0; rest /= 15) {
                if (rest % 15 > 0) {
                    text.append(signs.charAt(rest % 15 - 1));
                }
            }
            model.pad = text;
            DUE.is("fault() of \"" + text + "\"", Due.told(text.toString()).fault(), model.fault());
        }
    }
}
