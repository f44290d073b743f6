/** Edges of part 1 of the terms and of promises 1 to 5: a new object, nut, say, wipe, fault. */
public final class EdgesOfNutsTest {
    private static final Due DUE = new Due();

    private static final int UNKNOWN = StringNuts.UNKNOWN;
    private static final int OUTSIDE = StringNuts.OUTSIDE;
    private static final int FULL = StringNuts.FULL;
    private static final int NONE = StringNuts.NONE;

    private static final int LEAST = Integer.MIN_VALUE;
    private static final int GREATEST = Integer.MAX_VALUE;

    public static void main(String[] args) {
        allOnes();
        whichNuts();
        howHard();
        howManyCracks();
        whichChildren();
        scoreAsItWas();
        aloneAgain();
        notBrokenAgain();
        nutLeavesTheRest();
        howManySigns();
        whichSigns();
        wiped();
        wholeTexts();
        lettersInTexts();
        digitsInTexts();
        signsThatCanNotStand();
        moreMustCome();
        faultsOnAFullPad();
        DUE.end();
    }

    // ---- promise 1

    private static void allOnes() {
        DUE.sentence("Ten, all ones.");
        StringNuts x = new StringNuts();
        for (int nut = 0; nut < 10; nut++) {
            DUE.is("score of " + nut, x.told(30 + nut), 1);
        }
        DUE.is("none is broken", x.told(1), 0);
        DUE.sentence("(10 times the number, and 5, at first)");
        DUE.is("hard of 0", x.told(10), 5);
        DUE.is("hard of 1", x.told(11), 15);
        DUE.is("hard of 9", x.told(19), 95);
        DUE.sentence("have 0 to 2 CRACKS (0 at first)");
        for (int nut = 0; nut < 10; nut++) {
            DUE.is("cracks of " + nut, x.told(20 + nut), 0);
        }
        DUE.sentence("(the number left over by 4, at first)");
        int[] children = {0, 1, 2, 3, 0, 1, 2, 3, 0, 1};
        for (int nut = 0; nut < 10; nut++) {
            DUE.is("child of " + nut, x.told(40 + nut), children[nut]);
        }
        DUE.sentence("IN a NUT is itself, at first alone.");
        for (int nut = 0; nut < 10; nut++) {
            DUE.is("in " + nut, x.told(50 + nut), 1 << nut);
        }
        DUE.sentence("It is day 0 at first.");
        DUE.is("the day", x.told(2), 0);
        DUE.is("signs", x.told(0), 0);
        DUE.is("sights", x.told(3), 0);
    }

    // ---- promise 2

    private static void whichNuts() {
        DUE.sentence("NUTS 0 to 9 (A to J)");
        DUE.is("nut(0, ..), the first", new StringNuts().nut(0, 50, 0, 0), 1);
        DUE.is("nut(9, ..), the last", new StringNuts().nut(9, 50, 0, 0), 1);
        for (int wrong : new int[] {-1, 10, LEAST, GREATEST}) {
            DUE.is("nut(" + wrong + ", 50, 0, 0)", new StringNuts().nut(wrong, 50, 0, 0), UNKNOWN);
        }
    }

    private static void howHard() {
        DUE.sentence("are each HARD by 1 to 99");
        for (int right : new int[] {1, 99}) {
            StringNuts x = new StringNuts();
            DUE.is("nut(4, " + right + ", 0, 0)", x.nut(4, right, 0, 0), 1);
            DUE.is("its hard", x.told(14), right);
        }
        for (int wrong : new int[] {0, 100, -1, LEAST, GREATEST}) {
            StringNuts x = new StringNuts();
            DUE.is("nut(4, " + wrong + ", 0, 0)", x.nut(4, wrong, 0, 0), OUTSIDE);
            DUE.is("its hard stays", x.told(14), 45);
        }
    }

    private static void howManyCracks() {
        DUE.sentence("its CRACKS (0 to 2: it is not BROKEN)");
        for (int right : new int[] {0, 1, 2}) {
            StringNuts x = new StringNuts();
            DUE.is("nut(4, 50, " + right + ", 0)", x.nut(4, 50, right, 0), 1);
            DUE.is("its cracks", x.told(24), right);
            DUE.is("it is not broken", x.told(1), 0);
        }
        for (int wrong : new int[] {-1, 3, 4, LEAST, GREATEST}) {
            StringNuts x = new StringNuts();
            DUE.is("nut(4, 50, " + wrong + ", 0)", x.nut(4, 50, wrong, 0), OUTSIDE);
            DUE.is("its cracks stay", x.told(24), 0);
            DUE.is("its hard stays", x.told(14), 45);
        }
    }

    private static void whichChildren() {
        DUE.sentence("are of a CHILD 0 to 3");
        for (int right = 0; right <= 3; right++) {
            StringNuts x = new StringNuts();
            DUE.is("nut(4, 50, 0, " + right + ")", x.nut(4, 50, 0, right), 1);
            DUE.is("its child", x.told(44), right);
        }
        DUE.sentence("UNKNOWN: the NUT, the CHILD; OUTSIDE.");
        for (int wrong : new int[] {-1, 4, LEAST, GREATEST}) {
            StringNuts x = new StringNuts();
            DUE.is("nut(4, 50, 0, " + wrong + ")", x.nut(4, 50, 0, wrong), UNKNOWN);
            DUE.is("nut(4, 0, 0, " + wrong + ")", x.nut(4, 0, 0, wrong), UNKNOWN);
            DUE.is("nut(4, 50, 3, " + wrong + ")", x.nut(4, 50, 3, wrong), UNKNOWN);
            DUE.is("its child stays", x.told(44), 0);
        }
    }

    private static void scoreAsItWas() {
        DUE.sentence("it is a one, alone IN itself: its SCORE, as it was.");
        StringNuts x = new StringNuts();
        DUE.doDays(x, "C>AC>AC>AC>BC>BC>B");
        DUE.is("nut(2, ..), a three", x.nut(2, 25, 0, 2), 3);
        DUE.is("it is a one then", x.told(32), 1);
        DUE.is("nut(2, ..) again", x.nut(2, 25, 0, 2), 1);
    }

    private static void aloneAgain() {
        DUE.sentence("alone IN itself");
        StringNuts x = new StringNuts();
        DUE.doDays(x, "C>AC>AC>AC>BC>BC>B");
        DUE.is("in C are three", x.told(52), 7);
        x.nut(2, 25, 0, 2);
        DUE.is("in C is C", x.told(52), 4);
        DUE.is("in A is A, still", x.told(50), 1);
    }

    private static void notBrokenAgain() {
        DUE.sentence("(0 to 2: it is not BROKEN)");
        StringNuts x = new StringNuts();
        DUE.doDays(x, "B>AB>AB>AC>BC>BC>B");
        DUE.is("A and B are broken", x.told(1), 3);
        DUE.is("nut(1, ..): the score that it had when it broke", x.nut(1, 15, 2, 1), 2);
        DUE.is("B is not broken", x.told(1), 1);
        DUE.is("B is a one", x.told(31), 1);
        DUE.is("in B is B", x.told(51), 2);
        DUE.is("C keeps its score", x.told(32), 3);
        DUE.is("C keeps what is in it", x.told(52), 7);
    }

    private static void nutLeavesTheRest() {
        DUE.sentence("How HARD a NUT is, its CRACKS (0 to 2: it is not BROKEN), whose it is");
        StringNuts x = new StringNuts();
        Due.say(x, "A1");
        x.harder(0, 1);
        x.nut(5, 7, 1, 3);
        for (int nut = 0; nut < 10; nut++) {
            DUE.is("hard of " + nut, x.told(10 + nut), nut == 5 ? 7 : 10 * nut + 5);
            DUE.is("cracks of " + nut, x.told(20 + nut), nut == 5 ? 1 : 0);
            DUE.is("child of " + nut, x.told(40 + nut), nut == 5 ? 3 : nut % 4);
        }
        DUE.is("signs", x.told(0), 2);
        DUE.is("the day", x.told(2), 0);
        DUE.is("sights", x.told(3), 1);
    }

    // ---- promises 3 and 4

    private static void howManySigns() {
        DUE.sentence("a PAD of up to 60 signs");
        StringNuts x = new StringNuts();
        for (int count = 1; count <= 60; count++) {
            DUE.is("the " + count + "th sign", x.say('!'), count);
        }
        DUE.is("the 61st sign", x.say('!'), FULL);
        DUE.is("the 61st sign again", x.say('.'), FULL);
        DUE.is("signs", x.told(0), 60);
        DUE.is("wipe()", x.wipe(), 60);
        DUE.is("a sign on the pad that was full", x.say('A'), 1);
    }

    private static void whichSigns() {
        DUE.sentence("(codes 33 to 126)");
        for (int sign = 33; sign <= 126; sign++) {
            StringNuts x = new StringNuts();
            DUE.is("say(" + sign + ")", x.say(sign), 1);
            DUE.is("signs", x.told(0), 1);
        }
        for (int wrong : new int[] {32, 127, 31, 128, 0, -1, -33, 33 + 256, 65536 + 65, LEAST, GREATEST}) {
            StringNuts x = new StringNuts();
            DUE.is("say(" + wrong + ")", x.say(wrong), OUTSIDE);
            DUE.is("signs, say(" + wrong + ") refused", x.told(0), 0);
            DUE.is("fault(), say(" + wrong + ") refused", x.fault(), NONE);
        }
    }

    private static void wiped() {
        DUE.sentence("Signs go: how many there were.");
        StringNuts x = new StringNuts();
        DUE.is("wipe(), empty", x.wipe(), 0);
        x.say('!');
        DUE.is("wipe(), one", x.wipe(), 1);
        DUE.is("wipe(), empty again", x.wipe(), 0);
        DUE.is("fault(), empty", x.fault(), NONE);
        Due.sayTimes(x, '.', 60);
        DUE.is("wipe(), full", x.wipe(), 60);
        DUE.is("signs", x.told(0), 0);
        DUE.is("done(), nothing is left of them", x.done(), 0);
        DUE.is("the day", x.told(2), 0);
    }

    // ---- promise 5

    private static void fault(String text, int want) {
        DUE.is("fault() of \"" + text + "\"", Due.told(text).fault(), want);
    }

    private static void wholeTexts() {
        DUE.sentence("THE FAULT; NONE.");
        fault("", NONE);
        fault(".", NONE);
        fault("A>J", NONE);
        fault("J>A", NONE);
        fault("A>A", NONE);
        fault("A*", NONE);
        fault("J*", NONE);
        fault("A0", NONE);
        fault("J3", NONE);
        fault(".A>B.C*.D3.", NONE);
        StringNuts x = new StringNuts();
        Due.sayTimes(x, '.', 60);
        DUE.is("fault() of a full pad", x.fault(), NONE);
        StringNuts y = new StringNuts();
        for (int act = 0; act < 20; act++) {
            Due.say(y, "A>B");
        }
        DUE.is("fault() of a pad full of blows", y.fault(), NONE);
    }

    private static void lettersInTexts() {
        DUE.sentence("a NUT's letter and: > and a NUT's letter");
        for (char letter = 'A'; letter <= 'J'; letter++) {
            fault(letter + "*", NONE);
            fault("A>" + letter, NONE);
        }
        for (char letter : new char[] {'@', 'K', 'Z', 'a', 'j', '!', '~', '0', '9', '>', '*'}) {
            fault(letter + "*", 0);
            fault("A>" + letter, 2);
        }
        fault(".*", 1);
        fault("A>.", 2);
    }

    private static void digitsInTexts() {
        DUE.sentence("or a digit 0 to 3");
        for (char digit = '0'; digit <= '3'; digit++) {
            fault("C" + digit, NONE);
        }
        for (char digit : new char[] {'/', '4', '5', '9', ':'}) {
            fault("C" + digit, 1);
        }
        fault("C33", 2);
    }

    private static void signsThatCanNotStand() {
        DUE.sentence("the place (from 0 on) of the first sign that can not stand there");
        fault("K", 0);
        fault("0A", 0);
        fault(">A", 0);
        fault("*", 0);
        fault("A.", 1);
        fault("AB", 1);
        fault("A!", 1);
        fault("A>>A", 2);
        fault("A>*", 2);
        fault("A>3", 2);
        fault("A>B>", 3);
        fault("A>B*", 3);
        fault("A*1", 2);
        fault("A1*", 2);
        fault(".1", 1);
        fault("!A", 0);
        fault("A!K", 1);
    }

    private static void moreMustCome() {
        DUE.sentence("or the number of signs, if more must come");
        fault("A", 1);
        fault("J", 1);
        fault("A>", 2);
        fault(".A", 2);
        fault(".A>", 3);
        fault("A>BA>", 5);
        fault("A*B", 3);
        fault("A3B", 3);
    }

    private static void faultsOnAFullPad() {
        DUE.sentence("or the number of signs, if more must come");
        StringNuts x = new StringNuts();
        Due.sayTimes(x, '.', 59);
        x.say('A');
        DUE.is("more must come, and can not", x.fault(), 60);
        StringNuts y = new StringNuts();
        Due.sayTimes(y, '.', 58);
        Due.say(y, "A>");
        DUE.is("a letter must come, and can not", y.fault(), 60);
        StringNuts z = new StringNuts();
        Due.sayTimes(z, '.', 59);
        z.say('*');
        DUE.is("the last sign can not stand there", z.fault(), 59);
        StringNuts longest = new StringNuts();
        Due.sayTimes(longest, 'A', 60);
        DUE.is("the second can not stand there", longest.fault(), 1);
    }
}
