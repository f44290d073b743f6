/** Edges of the acts that part 1 of the terms tells, of part 2, and of promises 6 to 11. */
public final class EdgesOfDaysTest {
    private static final Due DUE = new Due();

    private static final int UNKNOWN = StringNuts.UNKNOWN;
    private static final int OUTSIDE = StringNuts.OUTSIDE;
    private static final int STATE = StringNuts.STATE;
    private static final int NO = StringNuts.NO;
    private static final int NONE = StringNuts.NONE;

    private static final int LEAST = Integer.MIN_VALUE;
    private static final int GREATEST = Integer.MAX_VALUE;

    public static void main(String[] args) {
        asMuchForce();
        forceByCracks();
        forceIsNoughtAtLeast();
        thirdCrack();
        scoreComesWithTheThird();
        insideComesWithTheThird();
        bakedByTen();
        bakedWithACrack();
        brokenByNobody();
        whoseItIs();
        aDay();
        reasonBroken();
        reasonOneChild();
        reasonHardest();
        reasonThatChild();
        reasonLastDay();
        leastReason();
        judgedAct();
        judgedAtTheEnds();
        howManyBroke();
        behindThem();
        ofAChild();
        onTheStreet();
        mostScore();
        firstBroken();
        doneDays();
        wrongNumbers();
        DUE.end();
    }

    /** Nuts A and B alone, of children 0 and 1, as told. */
    private static StringNuts pair(int hardA, int cracksA, int hardB, int cracksB) {
        StringNuts x = new StringNuts();
        x.nut(0, hardA, cracksA, 0);
        x.nut(1, hardB, cracksB, 1);
        return x;
    }

    private static void cracksBehind(String when, StringNuts x, String text, int cracksA, int cracksB) {
        Due.sayAnew(x, text);
        DUE.is(when + ", \"" + text + "\": cracks of A", x.behind(0, 1), cracksA);
        DUE.is(when + ", \"" + text + "\": cracks of B", x.behind(1, 1), cracksB);
    }

    // ---- blows

    private static void asMuchForce() {
        DUE.sentence("if its FORCE is as much, or more, the other one has a CRACK more, else it has itself");
        cracksBehind("as much", pair(50, 0, 50, 0), "A>B", 0, 1);
        cracksBehind("one more", pair(51, 0, 50, 0), "A>B", 0, 1);
        cracksBehind("one less", pair(49, 0, 50, 0), "A>B", 1, 0);
        cracksBehind("as much, the other way", pair(50, 0, 50, 0), "B>A", 1, 0);
        cracksBehind("the most at the least", pair(99, 0, 1, 0), "A>B", 0, 1);
        cracksBehind("the least at the most", pair(1, 0, 99, 0), "A>B", 1, 0);
    }

    private static void forceByCracks() {
        DUE.sentence("HARD less 7 times its CRACKS");
        cracksBehind("57 with a crack is 50", pair(57, 1, 50, 0), "A>B", 1, 1);
        cracksBehind("56 with a crack is 49", pair(56, 1, 50, 0), "A>B", 2, 0);
        cracksBehind("64 with two is 50", pair(64, 2, 50, 0), "A>B", 2, 1);
        cracksBehind("63 with two is 49", pair(63, 2, 50, 0), "A>B", 3, 0);
        cracksBehind("57 with a crack is struck by 50", pair(57, 1, 50, 0), "B>A", 2, 0);
        cracksBehind("58 with a crack is struck by 50", pair(58, 1, 50, 0), "B>A", 1, 1);
    }

    private static void forceIsNoughtAtLeast() {
        DUE.sentence("(0 at least)");
        cracksBehind("both nought, one far below it", pair(1, 2, 7, 1), "A>B", 2, 2);
        cracksBehind("both nought, the other way", pair(1, 2, 7, 1), "B>A", 3, 1);
        cracksBehind("6 with a crack is nought", pair(6, 1, 7, 1), "A>B", 1, 2);
        cracksBehind("13 with two is nought", pair(13, 2, 7, 1), "A>B", 2, 2);
        cracksBehind("8 with a crack is 1", pair(1, 2, 8, 1), "A>B", 3, 1);
        cracksBehind("14 with two is nought", pair(1, 1, 14, 2), "A>B", 1, 3);
        cracksBehind("15 with two is 1", pair(1, 1, 15, 2), "A>B", 2, 2);
    }

    private static void thirdCrack() {
        DUE.sentence("With a third CRACK one is BROKEN");
        StringNuts x = pair(90, 0, 50, 0);
        Due.say(x, "A>BA>B");
        DUE.is("with the second it is not", x.street(0), 0);
        DUE.is("its cracks", x.behind(1, 1), 2);
        Due.say(x, "A>B");
        DUE.is("with the third it is", x.street(0), 2);
        DUE.is("cracks, 3: BROKEN", x.behind(1, 1), 3);
        StringNuts striker = pair(50, 2, 90, 0);
        Due.say(striker, "A>B");
        DUE.is("the striker is, too, by its own blow", striker.street(0), 1);
    }

    private static void scoreComesWithTheThird() {
        DUE.sentence("the other of both has then as much SCORE more as the BROKEN one has");
        StringNuts x = pair(90, 0, 50, 0);
        DUE.doDays(x, "B>CC3B>CB>C");
        DUE.is("B is a two", x.told(31), 2);
        Due.say(x, "A>BA>B");
        DUE.is("nothing with the second", x.behind(0, 2), 1);
        Due.say(x, "A>B");
        DUE.is("two more with the third", x.behind(0, 2), 3);
        DUE.is("the broken one keeps its number", x.behind(1, 2), 2);
        StringNuts y = pair(90, 0, 50, 2);
        Due.say(y, "B>A");
        DUE.is("one that was struck at has it, too", y.behind(0, 2), 2);
    }

    private static void insideComesWithTheThird() {
        DUE.sentence("and all IN it that is IN that one, too");
        StringNuts x = pair(90, 0, 50, 0);
        DUE.doDays(x, "B>CB>CB>C");
        DUE.is("in B are B and C", x.told(51), 6);
        Due.say(x, "A>BA>B");
        DUE.is("nothing with the second", x.behind(0, 4), 1);
        Due.say(x, "A>B");
        DUE.is("both with the third", x.behind(0, 4), 7);
        DUE.is("in the broken one they are, still", x.behind(1, 4), 6);
        x.done();
        x.nut(1, 50, 2, 1);
        Due.say(x, "A>B");
        DUE.is("what is in it twice is in it", x.behind(0, 4), 7);
        DUE.is("but counts again", x.behind(0, 2), 4);
        StringNuts edges = new StringNuts();
        edges.nut(0, 50, 2, 0);
        Due.say(edges, "J>A");
        DUE.is("the first in the last", edges.behind(9, 4), 0x201);
    }

    // ---- baking, swaps, days

    private static void hardBehind(int hard, int cracks, String act, int wantHard, int wantCracks) {
        StringNuts x = new StringNuts();
        x.nut(6, hard, cracks, 2);
        Due.say(x, act);
        DUE.is("hard by " + hard + ", \"" + act + "\": hard", x.behind(6, 0), wantHard);
        DUE.is("hard by " + hard + ", \"" + act + "\": cracks", x.behind(6, 1), wantCracks);
    }

    private static void bakedByTen() {
        DUE.sentence("it is baked: HARD by 10 more, 99 at most");
        hardBehind(1, 0, "G*", 11, 0);
        hardBehind(88, 0, "G*", 98, 1);
        hardBehind(89, 0, "G*", 99, 1);
        hardBehind(90, 0, "G*", 99, 1);
        hardBehind(98, 0, "G*", 99, 1);
    }

    private static void bakedWithACrack() {
        DUE.sentence("with a CRACK more if it was HARD by 60 or more");
        hardBehind(59, 0, "G*", 69, 0);
        hardBehind(60, 0, "G*", 70, 1);
        hardBehind(61, 1, "G*", 71, 2);
        hardBehind(59, 2, "G*", 69, 2);
        hardBehind(50, 0, "G*G*", 70, 1);
        hardBehind(49, 0, "G*G*", 69, 0);
    }

    private static void brokenByNobody() {
        DUE.sentence("a third CRACK: it is BROKEN, by nobody");
        hardBehind(60, 2, "G*", 70, 3);
        hardBehind(95, 2, "G*", 99, 3);
        StringNuts x = new StringNuts();
        x.nut(6, 60, 2, 2);
        Due.say(x, "G*");
        DUE.is("broken", x.street(0), 0x40);
        DUE.is("how many", x.judge(2), 1);
        for (int nut = 0; nut < 10; nut++) {
            DUE.is("score of " + nut, x.behind(nut, 2), 1);
            DUE.is("in " + nut, x.behind(nut, 4), 1 << nut);
        }
    }

    private static void whoseItIs() {
        DUE.sentence("or a digit 0 to 3 (it is that CHILD's)");
        for (int child = 1; child <= 3; child++) {
            DUE.is("A is child " + child + "'s", Due.told("A" + child).behind(0, 3), child);
        }
        DUE.is("B is child 0's", Due.told("B0").behind(1, 3), 0);
        DUE.is("its score stays", Due.told("B0").behind(1, 2), 1);
        DUE.is("its hard stays", Due.told("B0").behind(1, 0), 15);
    }

    private static void aDay() {
        DUE.sentence("(a day: each NUT that is not BROKEN is HARD by 1 more, 99 at most)");
        hardBehind(97, 0, ".", 98, 0);
        hardBehind(98, 0, ".", 99, 0);
        hardBehind(99, 0, ".", 99, 0);
        hardBehind(98, 2, "..", 99, 2);
        hardBehind(1, 0, ".", 2, 0);
        StringNuts x = new StringNuts();
        x.nut(6, 60, 2, 2);
        Due.say(x, ".G*.");
        DUE.is("a broken one is as it broke", x.behind(6, 0), 71);
        DUE.is("the first of the others", x.behind(0, 0), 7);
        DUE.is("the last of the others", x.behind(9, 0), 97);
        DUE.is("the day", x.street(1), 2);
    }

    // ---- reasons

    private static void why(StringNuts x, String text, int act, int reason) {
        Due.sayAnew(x, text);
        DUE.is("judge(0) of \"" + text + "\"", x.judge(0), act);
        DUE.is("judge(1) of \"" + text + "\"", x.judge(1), reason);
    }

    private static StringNuts withABroken() {
        StringNuts x = new StringNuts();
        DUE.doDays(x, "B>AB>AB>A");
        return x;
    }

    private static void reasonBroken() {
        DUE.sentence("1 it, or the other one, is BROKEN (>, *, a digit)");
        why(withABroken(), "A>B", 0, 1);
        why(withABroken(), "B>A", 0, 1);
        why(withABroken(), "A*", 0, 1);
        why(withABroken(), "A1", 0, 1);
        why(withABroken(), ".", NONE, NONE);
        why(new StringNuts(), "B>AB>AB>AB>A", 3, 1);
        why(new StringNuts(), "B>AB>AB>A", NONE, NONE);
    }

    private static void reasonOneChild() {
        DUE.sentence("2 both are one, or one CHILD's (>)");
        why(new StringNuts(), "A>A", 0, 2);
        why(new StringNuts(), "J>J", 0, 2);
        why(new StringNuts(), "A>E", 0, 2);
        why(new StringNuts(), "J>B", 0, 2);
        why(new StringNuts(), "A>D", NONE, NONE);
        why(new StringNuts(), "A1A>E", NONE, NONE);
        why(new StringNuts(), "A1A>B", 1, 2);
    }

    private static void reasonHardest() {
        DUE.sentence("3 it is HARD by 99 already (*)");
        StringNuts x = pair(99, 0, 98, 0);
        why(x, "A*", 0, 3);
        why(x, "B*", NONE, NONE);
        why(x, "B*B*", 1, 3);
        why(x, ".B*", 1, 3);
        why(x, "A>B", NONE, NONE);
    }

    private static void reasonThatChild() {
        DUE.sentence("4 it is that CHILD's already (a digit)");
        for (int nut = 0; nut < 4; nut++) {
            why(new StringNuts(), (char) ('A' + nut) + "" + nut, 0, 4);
            why(new StringNuts(), (char) ('A' + nut) + "" + (nut + 1) % 4, NONE, NONE);
        }
        why(new StringNuts(), "A1A1", 1, 4);
        why(new StringNuts(), "A1A0", NONE, NONE);
    }

    private static StringNuts atDay(int day) {
        StringNuts x = new StringNuts();
        for (int left = day; left > 0; left -= 60) {
            Due.sayTimes(x, '.', Math.min(60, left));
            DUE.is("done() of days", x.done(), Math.min(60, left));
        }
        DUE.is("the day", x.told(2), day);
        return x;
    }

    private static void reasonLastDay() {
        DUE.sentence("5 it is day 99 (.)");
        why(atDay(98), ".", NONE, NONE);
        why(atDay(98), "..", 1, 5);
        why(atDay(99), ".", 0, 5);
        why(atDay(99), "A1A>B", 1, 2);
        why(atDay(99), "A>B", NONE, NONE);
        StringNuts x = atDay(99);
        x.say('.');
        DUE.is("done() at day 99", x.done(), STATE);
        DUE.is("it is day 99, still", x.told(2), 99);
    }

    private static void leastReason() {
        DUE.sentence("An ACT can not be for the least of these reasons");
        why(withABroken(), "A>A", 0, 1);
        why(withABroken(), "A>E", 0, 1);
        why(withABroken(), "E>A", 0, 1);
        why(withABroken(), "A0", 0, 1);
        StringNuts x = new StringNuts();
        x.nut(0, 99, 2, 0);
        x.nut(1, 99, 0, 1);
        DUE.doDays(x, "B>A");
        DUE.is("A is broken", x.told(20), 3);
        DUE.is("and hard by 99", x.told(10), 99);
        why(x, "A*", 0, 1);
        why(x, "B*", 0, 3);
    }

    // ---- promise 6

    private static void judgedAct() {
        DUE.sentence("JUDGED: the first ACT (from 0 on) that can not be, why");
        why(Due.told(""), "", NONE, NONE);
        why(new StringNuts(), "A0", 0, 4);
        why(new StringNuts(), ".A0", 1, 4);
        why(new StringNuts(), "A>BA*A1.A1", 4, 4);
        why(new StringNuts(), "A0B>B", 0, 4);
        why(new StringNuts(), "B>BA0", 0, 2);
    }

    private static void judgedAtTheEnds() {
        DUE.sentence("the first ACT (from 0 on) that can not be");
        StringNuts x = atDay(40);
        Due.sayTimes(x, '.', 60);
        DUE.is("judge(0), the sixtieth of sixty", x.judge(0), 59);
        DUE.is("judge(1), the sixtieth of sixty", x.judge(1), 5);
        DUE.is("judge(2)", x.judge(2), STATE);
        StringNuts y = atDay(39);
        Due.sayTimes(y, '.', 60);
        DUE.is("judge(0), all sixty can be", y.judge(0), NONE);
        DUE.is("judge(1), all sixty can be", y.judge(1), NONE);
        DUE.is("street(1)", y.street(1), 99);
    }

    private static void howManyBroke() {
        DUE.sentence("how many NUTS were BROKEN in the text");
        DUE.is("none, no text", Due.told("").judge(2), 0);
        DUE.is("none", Due.told("B>AB>A").judge(2), 0);
        DUE.is("one", Due.told("B>AB>AB>A").judge(2), 1);
        StringNuts ten = new StringNuts();
        for (int nut = 0; nut < 10; nut++) {
            ten.nut(nut, 60, 2, 0);
        }
        Due.say(ten, "A*B*C*D*E*F*G*H*I*J*");
        DUE.is("ten", ten.judge(2), 10);
        ten.done();
        DUE.is("none in this text", ten.judge(2), 0);
        DUE.sentence("STATE (2): some ACT can not be.");
        DUE.is("judge(2)", Due.told("B>AB>AB>AA*").judge(2), STATE);
        DUE.is("judge(0)", Due.told("B>AB>AB>AA*").judge(0), 3);
        DUE.sentence("NO: there is a FAULT");
        for (int what = 0; what < 3; what++) {
            DUE.is("judge(" + what + ") of \"A\"", Due.told("A").judge(what), NO);
            DUE.is("judge(" + what + ") of \"A0A\"", Due.told("A0A").judge(what), NO);
        }
    }

    // ---- promises 7 to 10

    private static void behindThem() {
        DUE.sentence("BEHIND: of a NUT HARD, CRACKS (3: BROKEN), SCORE, whose it is, what is IN it (bits)");
        StringNuts x = Due.told("B>A.B>AB>AB3");
        int[] ofA = {6, 3, 1, 0, 1};
        int[] ofB = {16, 0, 2, 3, 3};
        int[] ofJ = {96, 0, 1, 1, 512};
        for (int what = 0; what < 5; what++) {
            DUE.is("behind(0, " + what + ")", x.behind(0, what), ofA[what]);
            DUE.is("behind(1, " + what + ")", x.behind(1, what), ofB[what]);
            DUE.is("behind(9, " + what + ")", x.behind(9, what), ofJ[what]);
        }
    }

    private static void ofAChild() {
        DUE.sentence("CHILD: of a CHILD his SCORES of NUTS that are not BROKEN, added; those NUTS (bits)");
        StringNuts x = Due.told("D>CD>CD>CD2G1");
        DUE.is("child(2, 0): D is a two", x.child(2, 0), 2);
        DUE.is("child(2, 1): C is broken, D is his, G is not", x.child(2, 1), 8);
        DUE.is("child(3, 0)", x.child(3, 0), 1);
        DUE.is("child(3, 1)", x.child(3, 1), 0x80);
        DUE.is("child(1, 0)", x.child(1, 0), 4);
        DUE.is("child(0, 0)", x.child(0, 0), 3);
        StringNuts none = Due.told("D1H0");
        DUE.is("child(3, 0), he has none", none.child(3, 0), 0);
        DUE.is("child(3, 1), he has none", none.child(3, 1), 0);
        StringNuts all = Due.told("B0C0D0F0G0H0J0");
        DUE.is("child(0, 0), he has all", all.child(0, 0), 10);
        DUE.is("child(0, 1), he has all", all.child(0, 1), 1023);
    }

    private static void onTheStreet() {
        DUE.sentence("STREET: BROKEN ones (bits), the day");
        DUE.is("street(0), none", Due.told("").street(0), 0);
        DUE.is("street(1), the first day", Due.told("").street(1), 0);
        StringNuts x = new StringNuts();
        x.nut(0, 60, 2, 0);
        x.nut(9, 60, 2, 1);
        Due.say(x, "A*J*.");
        DUE.is("street(0), the first and the last", x.street(0), 0x201);
        DUE.is("street(1)", x.street(1), 1);
        x.done();
        DUE.is("street(0), of days ahead, too", x.street(0), 0x201);
        DUE.is("street(1), of days ahead, too", x.street(1), 1);
    }

    private static void mostScore() {
        DUE.sentence("the NUT that is not BROKEN of most SCORE, of as much the least (NONE)");
        DUE.is("all are ones", Due.told("").street(2), 0);
        DUE.is("a two", Due.told("J>AJ>AJ>A").street(2), 9);
        DUE.is("two twos", Due.told("J>AJ>AJ>AI>BI>BI>B").street(2), 8);
        StringNuts x = new StringNuts();
        x.nut(6, 60, 0, 2);
        Due.say(x, "G>AG>AG>AG*G*G*");
        DUE.is("a two that is broken by nobody", x.street(2), 1);
        DUE.is("its score stays with it", x.behind(6, 2), 2);
        StringNuts none = DaysTest.allBroken();
        DUE.is("all are broken", none.street(2), NONE);
        none.nut(9, 1, 2, 0);
        DUE.is("all but the last", none.street(2), 9);
    }

    private static void firstBroken() {
        DUE.sentence("FIRST: the first ACT by which one was BROKEN; which; NONE.");
        DUE.is("first(0) of nothing", Due.told("").first(0), NONE);
        DUE.is("first(1) of nothing", Due.told("").first(1), NONE);
        DUE.is("first(0), two cracks", Due.told("B>AB>A").first(0), NONE);
        DUE.is("first(1), two cracks", Due.told("B>AB>A").first(1), NONE);
        StringNuts x = new StringNuts();
        x.nut(9, 60, 2, 1);
        x.nut(0, 60, 2, 0);
        Due.say(x, "J*A*");
        DUE.is("first(0), the first act", x.first(0), 0);
        DUE.is("first(1), the last nut", x.first(1), 9);
        Due.sayAnew(x, ".A*J*");
        DUE.is("first(0), the second act", x.first(0), 1);
        DUE.is("first(1), the first nut", x.first(1), 0);
        x.done();
        DUE.is("first(0), it was in days ahead", x.first(0), NONE);
        DUE.is("first(1), it was in days ahead", x.first(1), NONE);
    }

    // ---- promise 11

    private static void doneDays() {
        DUE.sentence("DAYS are DONE (the PAD is empty then): ACTS.");
        StringNuts x = new StringNuts();
        DUE.is("done() of nothing", x.done(), 0);
        Due.say(x, "B>AC0J*.");
        DUE.is("done() of four acts, eight signs", x.done(), 4);
        DUE.is("signs", x.told(0), 0);
        DUE.is("done() again", x.done(), 0);
        DUE.is("cracks of A", x.told(20), 1);
        DUE.is("child of C", x.told(42), 0);
        DUE.is("hard of J", x.told(19), 99);
        DUE.is("cracks of J", x.told(29), 1);
        DUE.is("the day", x.told(2), 1);
        StringNuts full = new StringNuts();
        Due.sayTimes(full, '.', 60);
        DUE.is("done() of a full pad", full.done(), 60);
        DUE.is("the pad is empty", full.told(0), 0);
        DUE.is("a sign more", full.say('A'), 1);
        DUE.is("done(), a fault", full.done(), NO);
        full.say('0');
        DUE.is("done(), it can not be", full.done(), STATE);
        DUE.is("signs stay", full.told(0), 2);
    }

    // ---- wrong numbers, last right ones

    private static void wrongNumbers() {
        DUE.sentence("`int judge(int what)`");
        for (int wrong : new int[] {-1, 3, LEAST, GREATEST}) {
            DUE.is("judge(" + wrong + ")", new StringNuts().judge(wrong), OUTSIDE);
            DUE.is("street(" + wrong + ")", new StringNuts().street(wrong), OUTSIDE);
        }
        DUE.sentence("`int behind(int nut, int what)`");
        DUE.is("behind(0, 0)", new StringNuts().behind(0, 0), 5);
        DUE.is("behind(9, 4)", new StringNuts().behind(9, 4), 512);
        for (int wrong : new int[] {-1, 10, LEAST, GREATEST}) {
            DUE.is("behind(" + wrong + ", 0)", new StringNuts().behind(wrong, 0), UNKNOWN);
        }
        for (int wrong : new int[] {-1, 5, LEAST, GREATEST}) {
            DUE.is("behind(0, " + wrong + ")", new StringNuts().behind(0, wrong), OUTSIDE);
        }
        DUE.sentence("`int child(int child, int what)`");
        DUE.is("child(0, 0)", new StringNuts().child(0, 0), 3);
        DUE.is("child(3, 1)", new StringNuts().child(3, 1), 0x88);
        for (int wrong : new int[] {-1, 4, LEAST, GREATEST}) {
            DUE.is("child(" + wrong + ", 0)", new StringNuts().child(wrong, 0), UNKNOWN);
        }
        for (int wrong : new int[] {-1, 2, LEAST, GREATEST}) {
            DUE.is("child(0, " + wrong + ")", new StringNuts().child(0, wrong), OUTSIDE);
            DUE.is("first(" + wrong + ")", new StringNuts().first(wrong), OUTSIDE);
        }
    }
}
