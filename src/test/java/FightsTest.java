import java.util.Random;

/** Promises 12 to 14: fight, round, cup. */
public final class FightsTest {
    private static final Due DUE = new Due();

    public static void main(String[] args) {
        fights();
        fightsAsThingsAreNow();
        fightRefusals();
        rounds();
        roundRefusals();
        cups();
        cupRefusals();
        cupsBySettings();
        cupsAndRoundsOfSoftOnes();
        DUE.end();
    }

    private static StringNuts with(int[]... nuts) {
        StringNuts x = new StringNuts();
        for (int nut = 0; nut < nuts.length; nut++) {
            x.nut(nut, nuts[nut][0], nuts[nut][1], nut % 4);
        }
        return x;
    }

    private static void fight(StringNuts x, int one, int other, int winner, int blows, int cracks) {
        String pair = "(" + one + ", " + other + ", ";
        DUE.is("fight" + pair + "0)", x.fight(one, other, 0), winner);
        DUE.is("fight" + pair + "1)", x.fight(one, other, 1), blows);
        DUE.is("fight" + pair + "2)", x.fight(one, other, 2), cracks);
    }

    private static void fights() {
        StringNuts x = new StringNuts();
        fight(x, 0, 1, 1, 3, 0);
        fight(x, 1, 0, 1, 3, 0);
        fight(x, 0, 4, 4, 3, 0);
        fight(with(new int[] {50, 0}, new int[] {50, 0}), 0, 1, 0, 3, 0);
        fight(with(new int[] {50, 0}, new int[] {50, 0}), 1, 0, 1, 3, 0);
        fight(with(new int[] {3, 0}, new int[] {2, 1}), 0, 1, 0, 2, 0);
        fight(with(new int[] {3, 0}, new int[] {2, 1}), 1, 0, 0, 2, 0);
        // both of force 0: whoever strikes, the other one has a crack more
        fight(with(new int[] {5, 1}, new int[] {3, 1}), 0, 1, 0, 3, 2);
        fight(with(new int[] {5, 1}, new int[] {3, 1}), 1, 0, 1, 3, 2);
        fight(with(new int[] {1, 1}, new int[] {7, 0}), 0, 1, 1, 2, 0);
        fight(with(new int[] {1, 1}, new int[] {7, 1}), 0, 1, 0, 3, 2);
        fight(with(new int[] {50, 2}, new int[] {50, 1}), 0, 1, 1, 1, 1);
        fight(with(new int[] {99, 2}, new int[] {84, 0}), 0, 1, 0, 3, 2);
    }

    private static void fightsAsThingsAreNow() {
        StringNuts x = new StringNuts();
        Due.say(x, "A>BA>BA");
        DUE.is("what is on the pad is no matter", x.fight(0, 1, 1), 3);
        DUE.is("nothing comes of it", x.told(20), 0);
        DUE.is("no score", x.told(31), 1);
        DUE.is("the pad stays", x.told(0), 7);
    }

    private static void fightRefusals() {
        StringNuts x = new StringNuts();
        int[][] unknown = {{-1, 0}, {0, -1}, {10, 0}, {0, 10}, {3, 3}, {Integer.MIN_VALUE, 0}, {0, Integer.MAX_VALUE}};
        for (int[] u : unknown) {
            DUE.is("fight(" + u[0] + ", " + u[1] + ", 9)", x.fight(u[0], u[1], 9), StringNuts.UNKNOWN);
        }
        DUE.is("fight(0, 1, -1)", x.fight(0, 1, -1), StringNuts.OUTSIDE);
        DUE.is("fight(0, 1, 3)", x.fight(0, 1, 3), StringNuts.OUTSIDE);
        DUE.doDays(x, "B>AB>AB>A");
        DUE.is("fight(0, 1, 0), one broken", x.fight(0, 1, 0), StringNuts.STATE);
        DUE.is("fight(1, 0, 1), the other broken", x.fight(1, 0, 1), StringNuts.STATE);
        DUE.is("fight(1, 0, 3), the other broken", x.fight(1, 0, 3), StringNuts.OUTSIDE);
        DUE.is("fight(0, 0, 0), broken", x.fight(0, 0, 0), StringNuts.UNKNOWN);
    }

    private static void round(StringNuts x, int nut, int set) {
        DUE.is("round(" + nut + ", 0)", x.round(nut, 0), Integer.bitCount(set));
        DUE.is("round(" + nut + ", 1)", x.round(nut, 1), set);
    }

    private static void rounds() {
        StringNuts x = new StringNuts();
        for (int nut = 0; nut < 10; nut++) {
            round(x, nut, (1 << nut) - 1);
        }
        // all of force 0 with two cracks: who strikes first breaks the other one by one blow
        StringNuts soft = new StringNuts();
        for (int nut = 0; nut < 10; nut++) {
            soft.nut(nut, 1, 2, 0);
        }
        round(soft, 4, 0x3ef);
        byOrder();
        DUE.doDays(x, "B>AB>AB>A");
        round(x, 9, 0x1fe);
    }

    /** Which ones it can break depends on the order: compared with trying all orders. */
    private static void byOrder() {
        Random random = new Random(7);
        int costly = 0;
        for (int run = 0; run < 300; run++) {
            StringNuts x = new StringNuts();
            Model model = new Model();
            int top = run % 3 == 0 ? 8 : run % 3 == 1 ? 20 : 99;
            for (int nut = 0; nut < 10; nut++) {
                int hard = 1 + random.nextInt(top);
                int cracks = random.nextInt(3);
                x.nut(nut, hard, cracks, 0);
                model.nut(nut, hard, cracks, 0);
            }
            for (int nut = 0; nut < 10; nut++) {
                round(x, nut, model.round(nut, 1));
                costly += model.round(nut, 0) > 0 && model.round(nut, 0) < 9 ? 1 : 0;
            }
        }
        DUE.that("some of these rounds end between none and all", costly > 300);
    }

    private static void roundRefusals() {
        StringNuts x = new StringNuts();
        DUE.is("round(-1, 5)", x.round(-1, 5), StringNuts.UNKNOWN);
        DUE.is("round(10, 0)", x.round(10, 0), StringNuts.UNKNOWN);
        DUE.is("round(0, -1)", x.round(0, -1), StringNuts.OUTSIDE);
        DUE.is("round(0, 2)", x.round(0, 2), StringNuts.OUTSIDE);
        DUE.doDays(x, "B>AB>AB>A");
        DUE.is("round(0, 0), broken", x.round(0, 0), StringNuts.NONE);
        DUE.is("round(0, 1), broken", x.round(0, 1), StringNuts.NONE);
        DUE.is("round(0, 2), broken", x.round(0, 2), StringNuts.OUTSIDE);
    }

    private static void cups() {
        StringNuts x = new StringNuts();
        for (int nut = 0; nut < 8; nut++) {
            DUE.is("cup(" + nut + ")", x.cup(nut), nut == 7 ? 315 : 0);
        }
        // with two cracks and no force the one of lesser number wins at once
        StringNuts soft = new StringNuts();
        for (int nut = 0; nut < 8; nut++) {
            soft.nut(nut, 1, 2, 0);
        }
        DUE.is("cup(0) of soft ones", soft.cup(0), 315);
        DUE.is("cup(7) of soft ones", soft.cup(7), 0);
    }

    private static void cupRefusals() {
        StringNuts x = new StringNuts();
        DUE.is("cup(-1)", x.cup(-1), StringNuts.UNKNOWN);
        DUE.is("cup(8)", x.cup(8), StringNuts.UNKNOWN);
        DUE.is("cup(9)", x.cup(9), StringNuts.UNKNOWN);
        x.nut(8, 5, 0, 0);
        DUE.doDays(x, "J>IJ>IJ>I");
        DUE.is("cup(7), nut 8 is broken", x.cup(7), 315);
        DUE.doDays(x, "J>HJ>HJ>H");
        DUE.is("cup(7), nut 7 is broken", x.cup(7), StringNuts.STATE);
        DUE.is("cup(0), nut 7 is broken", x.cup(0), StringNuts.STATE);
        DUE.is("cup(8), nut 7 is broken", x.cup(8), StringNuts.UNKNOWN);
    }

    /** Each of the 315 cups comes 128 times among the 8! lines in which eight can be set. */
    private static void cupsBySettings() {
        Random random = new Random(11);
        for (int run = 0; run < 6; run++) {
            StringNuts x = new StringNuts();
            Model model = new Model();
            for (int nut = 0; nut < 8; nut++) {
                int hard = 1 + random.nextInt(run < 3 ? 12 : 40);
                int cracks = random.nextInt(3);
                x.nut(nut, hard, cracks, 0);
                model.nut(nut, hard, cracks, 0);
            }
            long[] wins = new long[8];
            setLines(model, new int[8], 0, 0, wins);
            int sum = 0;
            for (int nut = 0; nut < 8; nut++) {
                DUE.is("cup(" + nut + "), run " + run, x.cup(nut), wins[nut] / 128);
                sum += x.cup(nut);
            }
            DUE.is("all cups are won by one", sum, 315);
        }
    }

    /** With force left the hardest wins every cup; among soft ones it matters who meets whom. */
    private static void cupsAndRoundsOfSoftOnes() {
        Random random = new Random(13);
        int shared = 0;
        for (int run = 0; run < 300; run++) {
            StringNuts x = new StringNuts();
            Model model = new Model();
            for (int nut = 0; nut < 10; nut++) {
                int hard = 1 + random.nextInt(run % 2 == 0 ? 7 : 16);
                int cracks = random.nextInt(8) == 0 ? 0 : 1 + random.nextInt(2);
                x.nut(nut, hard, cracks, 0);
                model.nut(nut, hard, cracks, 0);
            }
            int winners = 0;
            for (int nut = 0; nut < 8; nut++) {
                int wins = x.cup(nut);
                DUE.is("cup(" + nut + ") of soft ones, run " + run, wins, model.cup(nut));
                winners += wins > 0 ? 1 : 0;
            }
            shared += winners > 1 ? 1 : 0;
            for (int nut = 0; nut < 10; nut++) {
                DUE.is("round(" + nut + ", 1) of soft ones, run " + run, x.round(nut, 1), model.round(nut, 1));
            }
        }
        DUE.that("many of these states have cups of several winners, not " + shared, shared > 50);
    }

    private static void setLines(Model model, int[] line, int size, int used, long[] wins) {
        if (size == 8) {
            wins[winner(model, line, 0, 8)[0]]++;
            return;
        }
        for (int nut = 0; nut < 8; nut++) {
            if ((used & 1 << nut) == 0) {
                line[size] = nut;
                setLines(model, line, size + 1, used | 1 << nut, wins);
            }
        }
    }

    private static int[] winner(Model model, int[] line, int from, int size) {
        if (size == 1) {
            return new int[] {line[from], model.now.nuts.get(line[from]).cracks};
        }
        return model.meet(winner(model, line, from, size / 2), winner(model, line, from + size / 2, size / 2));
    }
}
