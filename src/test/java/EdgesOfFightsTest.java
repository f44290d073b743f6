/** Edges of part 3 of the terms and of promises 12 to 14: fight, round, cup. */
public final class EdgesOfFightsTest {
    private static final Due DUE = new Due();

    private static final int UNKNOWN = StringNuts.UNKNOWN;
    private static final int OUTSIDE = StringNuts.OUTSIDE;
    private static final int STATE = StringNuts.STATE;
    private static final int NONE = StringNuts.NONE;

    private static final int LEAST = Integer.MIN_VALUE;
    private static final int GREATEST = Integer.MAX_VALUE;

    public static void main(String[] args) {
        asThingsAreNow();
        fewestAndMostBlows();
        fightsAsBlowsOnThePad();
        fightsOfOneChild();
        whoCanFight();
        brokenOnesDoNotFight();
        roundsOfNoneAndAll();
        eachOnceAtTheMost();
        cracksStayInARound();
        strikingFirst();
        leastOfAsMany();
        roundWithBrokenOnes();
        brokenItself();
        whoCanGoRound();
        cupsOfOneWinner();
        cracksStayInACup();
        whoIsInTheCup();
        brokenInTheCup();
        DUE.end();
    }

    private static StringNuts pair(int hardA, int cracksA, int hardB, int cracksB) {
        StringNuts x = new StringNuts();
        x.nut(0, hardA, cracksA, 0);
        x.nut(1, hardB, cracksB, 1);
        return x;
    }

    private static void fight(StringNuts x, int one, int other, int left, int blows, int cracks) {
        DUE.is("fight(" + one + ", " + other + ", 0)", x.fight(one, other, 0), left);
        DUE.is("fight(" + one + ", " + other + ", 1)", x.fight(one, other, 1), blows);
        DUE.is("fight(" + one + ", " + other + ", 2)", x.fight(one, other, 2), cracks);
    }

    /** All ten so hard, with so many cracks. */
    private static StringNuts allOf(int hard, int cracks) {
        StringNuts x = new StringNuts();
        for (int nut = 0; nut < 10; nut++) {
            x.nut(nut, hard, cracks, nut % 4);
        }
        return x;
    }

    /** Breaks one by baking, by nobody. */
    private static void breakByBaking(StringNuts x, int nut) {
        x.nut(nut, 60, 2, 0);
        DUE.doDays(x, (char) ('A' + nut) + "*");
        DUE.is("nut " + nut + " is broken", x.told(20 + nut), 3);
    }

    // ---- promise 12

    private static void asThingsAreNow() {
        DUE.sentence("(As things are now.) FIGHT of two NUTS");
        StringNuts x = new StringNuts();
        Due.say(x, "A>BA>BA>B");
        fight(x, 0, 1, 1, 3, 0);
        x.wipe();
        DUE.doDays(x, "A>B");
        fight(x, 0, 1, 1, 2, 0);
        DUE.doDays(x, "A>B");
        fight(x, 0, 1, 1, 1, 0);
    }

    private static void fewestAndMostBlows() {
        DUE.sentence("strike at each other by turns till one is BROKEN: which is not; how many BLOWS it takes; "
                + "how many CRACKS that one has then");
        fight(pair(50, 0, 40, 2), 0, 1, 0, 1, 0);
        fight(pair(50, 0, 40, 2), 1, 0, 0, 1, 0);
        fight(pair(50, 2, 20, 0), 0, 1, 0, 3, 2);
        fight(pair(50, 1, 20, 1), 1, 0, 0, 2, 1);
        fight(pair(50, 0, 50, 0), 0, 1, 0, 3, 0);
        fight(pair(50, 0, 50, 0), 1, 0, 1, 3, 0);
        // no force on either side: each blow cracks the one that is struck
        fight(pair(7, 1, 1, 1), 0, 1, 0, 3, 2);
        fight(pair(7, 1, 1, 1), 1, 0, 1, 3, 2);
        fight(pair(7, 2, 1, 1), 0, 1, 1, 2, 2);
        fight(pair(14, 2, 14, 2), 0, 1, 0, 1, 2);
        fight(pair(8, 1, 1, 1), 1, 0, 0, 2, 1);
        fight(pair(15, 2, 1, 1), 1, 0, 0, 2, 2);
    }

    /** What a fight tells is what its blows, told as days, come to; for all that two can have, to 24. */
    private static void fightsAsBlowsOnThePad() {
        DUE.sentence("the first, then the second, and so on, strike at each other by turns");
        for (int code = 0; code < 24 * 3 * 24 * 3; code++) {
            int hardA = 1 + code % 24;
            int cracksA = code / 24 % 3;
            int hardB = 1 + code / 72 % 24;
            int cracksB = code / 72 / 24;
            StringNuts x = pair(hardA, cracksA, hardB, cracksB);
            int blows = 0;
            while (x.street(0) == 0 && blows < 9) {
                Due.say(x, blows % 2 == 0 ? "A>B" : "B>A");
                blows++;
            }
            int left = x.street(0) == 1 ? 1 : 0;
            fight(x, 0, 1, left, blows, x.behind(left, 1));
        }
    }

    private static void fightsOfOneChild() {
        DUE.sentence("FIGHT of two NUTS");
        fight(new StringNuts(), 0, 4, 4, 3, 0);
        fight(new StringNuts(), 9, 0, 9, 3, 0);
    }

    private static void whoCanFight() {
        DUE.sentence("UNKNOWN: both, both one; OUTSIDE; STATE: one is BROKEN.");
        for (int wrong : new int[] {-1, 10, LEAST, GREATEST}) {
            DUE.is("fight(" + wrong + ", 1, 0)", new StringNuts().fight(wrong, 1, 0), UNKNOWN);
            DUE.is("fight(1, " + wrong + ", 0)", new StringNuts().fight(1, wrong, 0), UNKNOWN);
            DUE.is("fight(" + wrong + ", " + wrong + ", 0)", new StringNuts().fight(wrong, wrong, 0), UNKNOWN);
        }
        for (int nut = 0; nut < 10; nut++) {
            DUE.is("fight(" + nut + ", " + nut + ", 0)", new StringNuts().fight(nut, nut, 0), UNKNOWN);
        }
        for (int wrong : new int[] {-1, 3, LEAST, GREATEST}) {
            DUE.is("fight(0, 9, " + wrong + ")", new StringNuts().fight(0, 9, wrong), OUTSIDE);
        }
    }

    private static void brokenOnesDoNotFight() {
        DUE.sentence("STATE: one is BROKEN.");
        StringNuts x = new StringNuts();
        breakByBaking(x, 5);
        for (int what = 0; what < 3; what++) {
            DUE.is("fight(5, 6, " + what + ")", x.fight(5, 6, what), STATE);
            DUE.is("fight(6, 5, " + what + ")", x.fight(6, 5, what), STATE);
        }
        DUE.is("fight(4, 6, 0), others", x.fight(4, 6, 0), 6);
        breakByBaking(x, 6);
        DUE.is("fight(5, 6, 0), both", x.fight(5, 6, 0), STATE);
        x.nut(5, 1, 2, 0);
        DUE.is("fight(5, 4, 0), not broken any more", x.fight(5, 4, 0), 4);
    }

    // ---- promise 13

    private static void round(StringNuts x, int nut, int set) {
        DUE.is("round(" + nut + ", 0)", x.round(nut, 0), Integer.bitCount(set));
        DUE.is("round(" + nut + ", 1)", x.round(nut, 1), set);
    }

    private static void roundsOfNoneAndAll() {
        DUE.sentence("the most that it can break so, and not be BROKEN: how many; which");
        round(new StringNuts(), 0, 0);
        round(new StringNuts(), 1, 1);
        round(new StringNuts(), 9, 511);
        StringNuts x = new StringNuts();
        x.nut(0, 99, 0, 0);
        round(x, 0, 1022);
    }

    private static void eachOnceAtTheMost() {
        DUE.sentence("each once at the most, one behind another, in any order");
        StringNuts x = allOf(99, 0);
        x.nut(0, 50, 0, 0);
        x.nut(3, 20, 0, 3);
        round(x, 0, 8);
        round(x, 3, 0);
    }

    /** Of no force, with one crack, it can break one of one crack, and then those of two. */
    private static void cracksStayInARound() {
        DUE.sentence("its CRACKS stay, each other one is as it is now");
        StringNuts x = allOf(50, 0);
        x.nut(0, 1, 1, 0);
        x.nut(4, 1, 1, 0);
        round(x, 0, 0x10);
        round(x, 4, 1);
        x.nut(6, 1, 1, 2);
        round(x, 0, 0x10);
        x.nut(7, 1, 2, 2);
        round(x, 0, 0x90);
        x.nut(8, 1, 2, 2);
        round(x, 0, 0x190);
        x.nut(0, 1, 2, 0);
        round(x, 0, 0x180);
        DUE.is("as they were: its cracks", x.told(20), 2);
        DUE.is("as they were: another one's cracks", x.told(24), 1);
    }

    private static void strikingFirst() {
        DUE.sentence("striking first each time");
        round(allOf(50, 0), 0, 1022);
        round(allOf(50, 0), 9, 511);
        round(allOf(1, 2), 5, 1023 - 32);
        // with one crack each, of no force: one is broken, and it has two cracks then
        round(allOf(1, 1), 0, 2);
        round(allOf(1, 1), 9, 1);
    }

    private static void leastOfAsMany() {
        DUE.sentence("which, least as bits of as many");
        StringNuts x = allOf(50, 0);
        x.nut(9, 1, 1, 1);
        x.nut(7, 2, 1, 1);
        x.nut(3, 3, 1, 1);
        round(x, 9, 8);
        round(x, 3, 0x80);
        x.nut(0, 1, 2, 1);
        round(x, 9, 9);
        x.nut(8, 1, 2, 1);
        round(x, 9, 0x109);
    }

    private static void roundWithBrokenOnes() {
        DUE.sentence("it FIGHTS others that are not BROKEN");
        StringNuts x = new StringNuts();
        breakByBaking(x, 0);
        breakByBaking(x, 8);
        round(x, 9, 0xfe);
        StringNuts none = DaysTest.allBroken();
        none.nut(3, 1, 2, 0);
        round(none, 3, 0);
    }

    private static void brokenItself() {
        DUE.sentence("NONE: it is BROKEN itself.");
        for (int nut = 0; nut < 10; nut++) {
            StringNuts x = new StringNuts();
            breakByBaking(x, nut);
            DUE.is("round(" + nut + ", 0)", x.round(nut, 0), NONE);
            DUE.is("round(" + nut + ", 1)", x.round(nut, 1), NONE);
        }
    }

    private static void whoCanGoRound() {
        DUE.sentence("ROUND: how many (what = 0), which (1); NONE. UNKNOWN; OUTSIDE.");
        for (int wrong : new int[] {-1, 10, LEAST, GREATEST}) {
            DUE.is("round(" + wrong + ", 0)", new StringNuts().round(wrong, 0), UNKNOWN);
        }
        for (int wrong : new int[] {-1, 2, LEAST, GREATEST}) {
            DUE.is("round(0, " + wrong + ")", new StringNuts().round(0, wrong), OUTSIDE);
            DUE.is("round(9, " + wrong + ")", new StringNuts().round(9, wrong), OUTSIDE);
        }
    }

    // ---- promise 14

    private static void cups(StringNuts x, int... wins) {
        for (int nut = 0; nut < 8; nut++) {
            DUE.is("cup(" + nut + ")", x.cup(nut), wins[nut]);
        }
    }

    private static void cupsOfOneWinner() {
        DUE.sentence("by lot they can be set in 315 ways (who meets whom): in how many of them a NUT wins");
        cups(new StringNuts(), 0, 0, 0, 0, 0, 0, 0, 315);
        DUE.sentence("the one of lesser number strikes first each time");
        cups(allOf(50, 0), 315, 0, 0, 0, 0, 0, 0, 0);
        cups(allOf(1, 1), 315, 0, 0, 0, 0, 0, 0, 0);
        cups(allOf(1, 2), 315, 0, 0, 0, 0, 0, 0, 0);
    }

    /**
     * All of no force, H with one crack, the others with two: who meets H first (0 does in 45 ways) is
     * broken, and who meets it next breaks it; else the lesser number wins.
     */
    private static void cracksStayInACup() {
        DUE.sentence("then the two; CRACKS stay");
        StringNuts x = allOf(1, 2);
        x.nut(7, 1, 1, 3);
        cups(x, 270, 45, 0, 0, 0, 0, 0, 0);
        DUE.is("as they were", x.told(27), 1);
        // who meets whom in each of the rounds: counted once by a program of its own, all 105 by 3 ways
        x.nut(4, 1, 1, 0);
        x.nut(5, 1, 1, 1);
        cups(x, 141, 65, 28, 18, 51, 12, 0, 0);
    }

    private static void whoIsInTheCup() {
        DUE.sentence("CUP. UNKNOWN: 0 to 7; STATE.");
        StringNuts x = new StringNuts();
        DUE.is("cup(0)", x.cup(0), 0);
        DUE.is("cup(7)", x.cup(7), 315);
        for (int wrong : new int[] {-1, 8, 9, 10, LEAST, GREATEST}) {
            DUE.is("cup(" + wrong + ")", x.cup(wrong), UNKNOWN);
        }
        x.nut(8, 99, 0, 0);
        x.nut(9, 99, 0, 0);
        DUE.is("cup(7), 8 and 9 are not in it", x.cup(7), 315);
    }

    private static void brokenInTheCup() {
        DUE.sentence("STATE: one of the eight is BROKEN.");
        for (int nut = 0; nut < 10; nut++) {
            StringNuts x = new StringNuts();
            breakByBaking(x, nut);
            DUE.is("cup(6), " + nut + " is broken", x.cup(6), nut < 8 ? STATE : 0);
            DUE.is("cup(7), " + nut + " is broken", x.cup(7), nut < 8 ? STATE : 315);
        }
    }
}
