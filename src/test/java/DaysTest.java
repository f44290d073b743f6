/** Promises 6 to 11: judge, behind, child, street, first, done. */
public final class DaysTest {
    private static final Due DUE = new Due();

    public static void main(String[] args) {
        blows();
        force();
        scores();
        baking();
        swaps();
        days();
        reasons();
        judge();
        refusals();
        street();
        first();
        done();
        DUE.end();
    }

    private static StringNuts told(String text) {
        StringNuts x = new StringNuts();
        Due.say(x, text);
        return x;
    }

    private static void blows() {
        DUE.is("the harder one strikes: the other has a crack", told("B>A").behind(0, 1), 1);
        DUE.is("the harder one has none", told("B>A").behind(1, 1), 0);
        DUE.is("the softer one strikes: it has a crack itself", told("A>B").behind(0, 1), 1);
        DUE.is("the harder one has none then", told("A>B").behind(1, 1), 0);
        StringNuts x = new StringNuts();
        x.nut(0, 15, 0, 0);
        Due.say(x, "A>B");
        DUE.is("as much force: the other one has a crack", x.behind(1, 1), 1);
        DUE.is("hard stays by a blow", x.behind(1, 0), 15);
    }

    private static void force() {
        StringNuts x = new StringNuts();
        x.nut(0, 22, 0, 0);
        x.nut(1, 29, 1, 1);
        Due.say(x, "A>B");
        DUE.is("29 with a crack is 22", x.behind(1, 1), 2);
        x.nut(1, 30, 1, 1);
        DUE.is("30 with a crack is 23", x.behind(0, 1), 1);
        x.nut(0, 36, 0, 0);
        x.nut(1, 50, 2, 1);
        DUE.is("50 with two cracks is 36", x.behind(1, 1), 3);
        x.nut(0, 1, 2, 0);
        x.nut(1, 9, 2, 1);
        DUE.is("a force is 0 at least", x.behind(1, 1), 3);
    }

    private static void scores() {
        StringNuts x = new StringNuts();
        DUE.doDays(x, "B>AB>AB>A");
        DUE.is("B has A's score more", x.told(31), 2);
        DUE.is("A's score stays", x.told(30), 1);
        DUE.is("in B is A, too", x.told(51), 3);
        DUE.is("in A is A", x.told(50), 1);
        DUE.doDays(x, "C>BC>BC>B");
        DUE.is("C has B's score more", x.told(32), 3);
        DUE.is("in C are A and B, too", x.told(52), 7);
        DUE.doDays(x, "E>GE>GE>G");
        DUE.is("one that breaks by its own blows: the other has its score", x.told(36), 2);
        DUE.is("what is in it", x.told(56), 0x50);
        DUE.is("broken", x.told(1), 0x13);
        DUE.is("scores of child 2", x.child(2, 0), 5);
        DUE.is("nuts of child 2", x.child(2, 1), 0x44);
        DUE.is("scores of child 0: only I is not broken", x.child(0, 0), 1);
        DUE.is("nuts of child 0", x.child(0, 1), 0x100);
    }

    private static void baking() {
        DUE.is("baked: 10 more", told("A*").behind(0, 0), 15);
        DUE.is("baked below 60: no crack", told("F*").behind(5, 1), 0);
        StringNuts x = new StringNuts();
        x.nut(0, 60, 0, 0);
        x.nut(1, 59, 0, 1);
        x.nut(2, 89, 0, 2);
        x.nut(3, 90, 2, 3);
        x.nut(4, 98, 1, 0);
        Due.say(x, "A*B*C*D*E*");
        DUE.is("60 baked: a crack", x.behind(0, 1), 1);
        DUE.is("60 baked", x.behind(0, 0), 70);
        DUE.is("59 baked: none", x.behind(1, 1), 0);
        DUE.is("59 baked", x.behind(1, 0), 69);
        DUE.is("89 baked", x.behind(2, 0), 99);
        DUE.is("90 baked: 99 at most", x.behind(3, 0), 99);
        DUE.is("98 baked: 99 at most", x.behind(4, 0), 99);
        DUE.is("a third crack by baking: broken", x.street(0), 8);
        DUE.is("broken by nobody", x.child(3, 0) + x.child(2, 0) + x.child(1, 0) + x.child(0, 0), 9);
        DUE.is("in the act", x.first(0), 3);
        DUE.is("which", x.first(1), 3);
    }

    private static void swaps() {
        DUE.is("it is that child's", told("A3").behind(0, 3), 3);
        DUE.is("nuts of that child", told("A3").child(3, 1), 0x89);
        DUE.is("nuts of the one who had it", told("A3").child(0, 1), 0x110);
        DUE.is("a blow at what was one's own", told("A3A>E").behind(0, 1), 1);
        DUE.is("one child's by a swap", told("A1A>B").judge(1), 2);
    }

    private static void days() {
        StringNuts x = told("..");
        for (int nut = 0; nut < 10; nut++) {
            DUE.is("hard of " + nut + " after two days", x.behind(nut, 0), 10 * nut + 7);
        }
        DUE.is("street(1)", x.street(1), 2);
        DUE.is("told(2): nothing is done yet", x.told(2), 0);
        x.nut(0, 99, 0, 0);
        x.nut(1, 98, 0, 1);
        DUE.is("99 at most", x.behind(0, 0), 99);
        DUE.is("99 at most from 98", x.behind(1, 0), 99);
        StringNuts y = told("B>AB>AB>A.");
        DUE.is("a broken one does not harden", y.behind(0, 0), 5);
        DUE.is("others do", y.behind(1, 0), 16);
    }

    private static StringNuts atDay(int day) {
        StringNuts x = new StringNuts();
        for (int i = 0; i < day; i++) {
            x.say('.');
            if (i % 50 == 49 || i == day - 1) {
                x.done();
            }
        }
        return x;
    }

    private static void reasons() {
        StringNuts x = new StringNuts();
        DUE.doDays(x, "B>AB>AB>A");
        x.nut(2, 99, 0, 2);
        Object[][] texts = {
            {"A>B", 1}, {"B>A", 1}, {"A>A", 1}, {"A>E", 1}, {"E>A", 1}, {"A*", 1}, {"A0", 1}, {"A1", 1},
            {"B>B", 2}, {"B>F", 2}, {"C*", 3}, {"B1", 4}, {"C2", 4}, {"B>C", -6}, {"B*", -6}, {"B0", -6}, {".", -6}};
        for (Object[] text : texts) {
            Due.sayAnew(x, (String) text[0]);
            DUE.is("judge(1) of \"" + text[0] + "\"", x.judge(1), (Integer) text[1]);
            DUE.is("judge(0) of \"" + text[0] + "\"", x.judge(0), (Integer) text[1] == -6 ? -6 : 0);
        }
        StringNuts y = atDay(98);
        Due.say(y, "..");
        DUE.is("day 99 is the last: the act", y.judge(0), 1);
        DUE.is("day 99 is the last: why", y.judge(1), 5);
        Due.sayAnew(y, ".");
        DUE.is("street(1) at day 99", y.street(1), 99);
        DUE.is("done()", y.done(), 1);
        DUE.is("told(2)", y.told(2), 99);
        y.say('.');
        DUE.is("judge(1) at day 99", y.judge(1), 5);
        DUE.is("done() at day 99", y.done(), StringNuts.STATE);
        Due.sayAnew(y, "A1");
        DUE.is("other acts can be at day 99", y.judge(0), StringNuts.NONE);
    }

    private static void judge() {
        DUE.is("judge(0): the first one that can not be", told("A>BA0C*A0").judge(0), 1);
        DUE.is("judge(1): why it", told("A>BA0B>B").judge(1), 4);
        DUE.is("judge(2): two broken", told("B>AB>AB>AD>CD>CD>C").judge(2), 2);
        DUE.is("judge(2) of nothing", told("").judge(2), 0);
        DUE.is("judge(2): none is broken by a swap, a day, baking, a blow", told("A3.A*A>B").judge(2), 0);
        StringNuts x = new StringNuts();
        DUE.doDays(x, "B>AB>AB>A");
        x.say('.');
        DUE.is("judge(2): in this text none", x.judge(2), 0);
        DUE.is("judge(2): some act can not be", told("B>AB>AB>AA*").judge(2), StringNuts.STATE);
        DUE.is("judge(0) then", told("B>AB>AB>AA*").judge(0), 3);
    }

    private static void refusals() {
        StringNuts sound = told("B>AB>AB>A");
        StringNuts faulty = told("A0A");
        StringNuts impossible = told("A0");
        int[] outside = {-1, 5, Integer.MAX_VALUE, Integer.MIN_VALUE};
        for (int w : outside) {
            DUE.is("judge(" + w + ")", faulty.judge(w), StringNuts.OUTSIDE);
            DUE.is("behind(0, " + w + ")", faulty.behind(0, w), StringNuts.OUTSIDE);
            DUE.is("behind(10, " + w + ")", faulty.behind(10, w), StringNuts.UNKNOWN);
            DUE.is("child(0, " + w + ")", impossible.child(0, w), StringNuts.OUTSIDE);
            DUE.is("child(-1, " + w + ")", impossible.child(-1, w), StringNuts.UNKNOWN);
            DUE.is("street(" + w + ")", faulty.street(w), StringNuts.OUTSIDE);
            DUE.is("first(" + w + ")", impossible.first(w), StringNuts.OUTSIDE);
        }
        DUE.is("judge(3)", sound.judge(3), StringNuts.OUTSIDE);
        DUE.is("child(0, 2)", sound.child(0, 2), StringNuts.OUTSIDE);
        DUE.is("child(4, 0)", sound.child(4, 0), StringNuts.UNKNOWN);
        DUE.is("street(3)", sound.street(3), StringNuts.OUTSIDE);
        DUE.is("first(2)", sound.first(2), StringNuts.OUTSIDE);
        DUE.is("behind(-1, 0)", sound.behind(-1, 0), StringNuts.UNKNOWN);
        for (int what = 0; what < 3; what++) {
            DUE.is("judge, a fault", faulty.judge(what), StringNuts.NO);
            DUE.is("street, a fault", faulty.street(what), StringNuts.NO);
            DUE.is("street, an act that can not be", impossible.street(what), StringNuts.STATE);
        }
        for (int what = 0; what < 5; what++) {
            DUE.is("behind, a fault", faulty.behind(9, what), StringNuts.NO);
            DUE.is("behind, an act that can not be", impossible.behind(9, what), StringNuts.STATE);
        }
        for (int what = 0; what < 2; what++) {
            DUE.is("child, a fault", faulty.child(3, what), StringNuts.NO);
            DUE.is("child, an act that can not be", impossible.child(3, what), StringNuts.STATE);
            DUE.is("first, a fault", faulty.first(what), StringNuts.NO);
            DUE.is("first, an act that can not be", impossible.first(what), StringNuts.STATE);
        }
        DUE.is("done, a fault", faulty.done(), StringNuts.NO);
        DUE.is("done, an act that can not be", impossible.done(), StringNuts.STATE);
        DUE.is("the pad stays", faulty.told(0), 3);
        DUE.is("the pad stays there, too", impossible.told(0), 2);
    }

    private static void street() {
        DUE.is("of as much score the least", told("").street(2), 0);
        DUE.is("of most score", told("B>AB>AB>A").street(2), 1);
        DUE.is("of two with most, the least", told("D>CD>CD>CB>AB>AB>A").street(2), 1);
        StringNuts x = told("B>AB>AB>AC>BC>BC>B");
        DUE.is("three in it", x.street(2), 2);
        DUE.is("two are broken", x.street(0), 3);
        StringNuts all = allBroken();
        DUE.is("all are broken", all.street(0), 1023);
        DUE.is("none is left", all.street(2), StringNuts.NONE);
        DUE.is("nothing is any child's", all.child(0, 0) + all.child(1, 1) + all.child(2, 0) + all.child(3, 1), 0);
        DUE.is("the most score by a year", all.year(1, 5, 1), 0);
        DUE.is("a score that a broken one keeps", all.told(39), 1);
    }

    static StringNuts allBroken() {
        StringNuts x = new StringNuts();
        for (int nut = 0; nut < 10; nut++) {
            x.nut(nut, 60, 2, 0);
        }
        Due.say(x, "A*B*C*D*E*F*G*H*I*J*");
        x.done();
        return x;
    }

    private static void first() {
        DUE.is("first(0) of nothing", told("").first(0), StringNuts.NONE);
        DUE.is("first(1): none was broken", told("B>A.").first(1), StringNuts.NONE);
        DUE.is("first(0)", told(".B>AB>A.B>AC>BC>BC>B").first(0), 4);
        DUE.is("first(1)", told(".B>AB>A.B>AC>BC>BC>B").first(1), 0);
        DUE.is("first(1): the striker", told("A>BA>BA>B").first(1), 0);
        StringNuts x = new StringNuts();
        DUE.doDays(x, "B>AB>AB>A");
        x.say('.');
        DUE.is("first(0): not in this text", x.first(0), StringNuts.NONE);
    }

    private static void done() {
        StringNuts x = told("A3.B>AB*");
        DUE.is("done()", x.done(), 4);
        DUE.is("the pad is empty", x.told(0), 0);
        DUE.is("done() of nothing", x.done(), 0);
        DUE.is("told(2)", x.told(2), 1);
        DUE.is("told(40)", x.told(40), 3);
        DUE.is("told(20)", x.told(20), 1);
        DUE.is("told(11)", x.told(11), 26);
        Due.say(x, "A3");
        DUE.is("it is so then", x.judge(1), 4);
        StringNuts y = new StringNuts();
        for (int i = 0; i < 60; i++) {
            y.say('.');
        }
        DUE.is("done() of sixty", y.done(), 60);
        DUE.is("the day", y.told(2), 60);
    }
}
