import java.util.ArrayList;
import java.util.List;
import java.util.function.Supplier;
import java.util.function.ToLongFunction;

/** The document's "Terms" ahead of its parts: refusals, their order, that they change nothing, fractions, sets. */
public final class EdgesOfTermsTest {
    private static final Due DUE = new Due();
    private static final Twins TWINS = new Twins(DUE);

    private static final int UNKNOWN = StringNuts.UNKNOWN;
    private static final int OUTSIDE = StringNuts.OUTSIDE;
    private static final int STATE = StringNuts.STATE;
    private static final int FULL = StringNuts.FULL;
    private static final int NO = StringNuts.NO;
    private static final int NONE = StringNuts.NONE;

    private static final int LEAST = Integer.MIN_VALUE;
    private static final int GREATEST = Integer.MAX_VALUE;

    private record Call(String text, ToLongFunction<StringNuts> on, long answer) { }

    public static void main(String[] args) {
        unknownAheadOfAll();
        outsideAheadOfNoStateFull();
        noAheadOfState();
        refusalsByArgumentsChangeNothing();
        refusalsByStateChangeNothing();
        questionsChangeNothing();
        signsAreNotRefusedForWhereTheyStand();
        fractions();
        sets();
        theLastCall();
        DUE.end();
    }

    // ---- what the objects are that the calls are made on

    /** A is broken, B is a two, it is day 2; image 0 and two sights are kept from then on. */
    private static StringNuts busy() {
        StringNuts x = new StringNuts();
        DUE.doDays(x, "B>AB>AB>A..");
        x.harder(3, 4);
        x.image(0);
        x.nut(9, 70, 1, 3);
        x.harder(0, 1);
        x.harder(2, 1);
        DUE.doDays(x, "C0J*D>C");
        return x;
    }

    private static StringNuts sound() {
        StringNuts x = busy();
        Due.say(x, "D>CD>CE1.");
        return x;
    }

    /** Its days have a fault, and an act ahead of it that can not be. */
    private static StringNuts faulty() {
        StringNuts x = busy();
        Due.say(x, "B>DD3E>");
        return x;
    }

    private static StringNuts impossible() {
        StringNuts x = busy();
        Due.say(x, "B>DD3.");
        return x;
    }

    private static StringNuts full() {
        StringNuts x = busy();
        x.image(1);
        for (int i = 0; i < 5; i++) {
            x.harder(i, (i + 2) % 5);
        }
        Due.sayTimes(x, '.', 57);
        Due.say(x, "D>C");
        return x;
    }

    private static StringNuts fullAndFaulty() {
        StringNuts x = busy();
        Due.sayTimes(x, '.', 59);
        Due.say(x, "D");
        return x;
    }

    private static StringNuts firstBroken() {
        StringNuts x = new StringNuts();
        DUE.doDays(x, "B>AB>AB>A");
        return x;
    }

    // ---- the order of refusals

    private static void unknownAheadOfAll() {
        DUE.sentence("the first of these that fits: UNKNOWN -1 (there is no such NUT, CHILD), OUTSIDE -2");
        DUE.is("nut(10, 0, 0, 0)", new StringNuts().nut(10, 0, 0, 0), UNKNOWN);
        DUE.is("nut(-1, 1, 3, 0)", new StringNuts().nut(-1, 1, 3, 0), UNKNOWN);
        DUE.is("nut(0, 100, 0, 4)", new StringNuts().nut(0, 100, 0, 4), UNKNOWN);
        DUE.is("nut(0, 1, -1, -1)", new StringNuts().nut(0, 1, -1, -1), UNKNOWN);
        DUE.is("behind(10, 5)", sound().behind(10, 5), UNKNOWN);
        DUE.is("behind(-1, 0), a fault", faulty().behind(-1, 0), UNKNOWN);
        DUE.is("behind(10, 0), an act that can not be", impossible().behind(10, 0), UNKNOWN);
        DUE.is("child(4, 2)", sound().child(4, 2), UNKNOWN);
        DUE.is("child(-1, 0), a fault", faulty().child(-1, 0), UNKNOWN);
        DUE.is("child(4, 0), an act that can not be", impossible().child(4, 0), UNKNOWN);
        DUE.is("fight(1, 10, 3)", new StringNuts().fight(1, 10, 3), UNKNOWN);
        DUE.is("fight(1, 1, 3)", new StringNuts().fight(1, 1, 3), UNKNOWN);
        DUE.is("fight(0, 10, 0), 0 broken", firstBroken().fight(0, 10, 0), UNKNOWN);
        DUE.is("fight(-1, 0, 0), 0 broken", firstBroken().fight(-1, 0, 0), UNKNOWN);
        DUE.is("fight(0, 0, 0), 0 broken", firstBroken().fight(0, 0, 0), UNKNOWN);
        DUE.is("round(10, 2)", new StringNuts().round(10, 2), UNKNOWN);
        DUE.is("cup(8), 0 broken", firstBroken().cup(8), UNKNOWN);
        DUE.is("cup(-1), 0 broken", firstBroken().cup(-1), UNKNOWN);
    }

    private static void outsideAheadOfNoStateFull() {
        DUE.sentence("OUTSIDE -2 (another number is not as told), NO -5 (as told), STATE -3 (as told), FULL -4");
        DUE.is("judge(3), a fault", faulty().judge(3), OUTSIDE);
        DUE.is("judge(3), an act that can not be", impossible().judge(3), OUTSIDE);
        DUE.is("behind(0, 5), a fault", faulty().behind(0, 5), OUTSIDE);
        DUE.is("behind(0, -1), an act that can not be", impossible().behind(0, -1), OUTSIDE);
        DUE.is("child(0, 2), a fault", faulty().child(0, 2), OUTSIDE);
        DUE.is("child(0, -1), an act that can not be", impossible().child(0, -1), OUTSIDE);
        DUE.is("street(3), a fault", faulty().street(3), OUTSIDE);
        DUE.is("street(-1), an act that can not be", impossible().street(-1), OUTSIDE);
        DUE.is("first(2), a fault", faulty().first(2), OUTSIDE);
        DUE.is("first(-1), an act that can not be", impossible().first(-1), OUTSIDE);
        DUE.is("fight(0, 1, 3), 0 broken", firstBroken().fight(0, 1, 3), OUTSIDE);
        DUE.is("fight(1, 0, -1), 0 broken", firstBroken().fight(1, 0, -1), OUTSIDE);
        DUE.is("round(0, 2), 0 broken", firstBroken().round(0, 2), OUTSIDE);
        DUE.is("restore(2), nothing kept", new StringNuts().restore(2), OUTSIDE);
        DUE.is("restore(-1), nothing kept", new StringNuts().restore(-1), OUTSIDE);
        DUE.is("say(32), full", full().say(32), OUTSIDE);
        DUE.is("say(127), full", full().say(127), OUTSIDE);
        DUE.is("harder(5, 0), full", full().harder(5, 0), OUTSIDE);
        DUE.is("harder(1, 1), full", full().harder(1, 1), OUTSIDE);
    }

    private static void noAheadOfState() {
        DUE.sentence("NO -5 (as told), STATE -3 (as told)");
        DUE.is("an act can not be, no fault", impossible().judge(2), STATE);
        DUE.is("judge(2)", faulty().judge(2), NO);
        DUE.is("behind(0, 0)", faulty().behind(0, 0), NO);
        DUE.is("child(0, 0)", faulty().child(0, 0), NO);
        DUE.is("street(0)", faulty().street(0), NO);
        DUE.is("first(0)", faulty().first(0), NO);
        DUE.is("done()", faulty().done(), NO);
    }

    // ---- They change nothing

    private static List<Call> refusedByArguments() {
        List<Call> calls = new ArrayList<>();
        int[][] nuts = {{-1, 5, 0, 0, -1}, {10, 5, 0, 0, -1}, {3, 5, 0, -1, -1}, {3, 5, 0, 4, -1}, {3, 0, 0, 0, -2},
            {3, 100, 0, 0, -2}, {3, 5, -1, 0, -2}, {3, 5, 3, 0, -2}, {LEAST, 5, 0, 0, -1}, {GREATEST, 5, 0, 0, -1},
            {3, LEAST, 0, 0, -2}, {3, GREATEST, 0, 0, -2}, {3, 5, LEAST, 0, -2}, {3, 5, GREATEST, 0, -2},
            {3, 5, 0, LEAST, -1}, {3, 5, 0, GREATEST, -1}, {0, 0, 0, 0, -2}, {0, 5, 3, 0, -2}};
        for (int[] n : nuts) {
            calls.add(new Call("nut(" + n[0] + ", " + n[1] + ", " + n[2] + ", " + n[3] + ")",
                    x -> x.nut(n[0], n[1], n[2], n[3]), n[4]));
        }
        for (int wrong : new int[] {LEAST, -1, 127, 321, GREATEST}) {
            calls.add(new Call("say(" + wrong + ")", x -> x.say(wrong), OUTSIDE));
        }
        calls.add(new Call("say(32)", x -> x.say(32), OUTSIDE));
        for (int wrong : new int[] {LEAST, -1, 5, GREATEST}) {
            calls.add(new Call("harder(0, " + wrong + ")", x -> x.harder(0, wrong), OUTSIDE));
            calls.add(new Call("harder(" + wrong + ", 0)", x -> x.harder(wrong, 0), OUTSIDE));
        }
        for (int same = 0; same < 5; same++) {
            int xy = same;
            calls.add(new Call("harder(" + xy + ", " + xy + ")", x -> x.harder(xy, xy), OUTSIDE));
        }
        for (int wrong : new int[] {LEAST, -1, 2, GREATEST}) {
            calls.add(new Call("image(" + wrong + ")", x -> x.image(wrong), OUTSIDE));
            calls.add(new Call("restore(" + wrong + ")", x -> x.restore(wrong), OUTSIDE));
        }
        addRefusedQuestions(calls);
        return calls;
    }

    private static void addRefusedQuestions(List<Call> calls) {
        for (int wrong : new int[] {LEAST, -1, 10, GREATEST}) {
            calls.add(new Call("behind(" + wrong + ", 0)", x -> x.behind(wrong, 0), UNKNOWN));
            calls.add(new Call("child(" + wrong + ", 0)", x -> x.child(wrong, 0), UNKNOWN));
            calls.add(new Call("fight(" + wrong + ", 0, 0)", x -> x.fight(wrong, 0, 0), UNKNOWN));
            calls.add(new Call("fight(0, " + wrong + ", 0)", x -> x.fight(0, wrong, 0), UNKNOWN));
            calls.add(new Call("round(" + wrong + ", 0)", x -> x.round(wrong, 0), UNKNOWN));
            calls.add(new Call("cup(" + wrong + ")", x -> x.cup(wrong), UNKNOWN));
            calls.add(new Call("judge(" + wrong + ")", x -> x.judge(wrong), OUTSIDE));
            calls.add(new Call("behind(1, " + wrong + ")", x -> x.behind(1, wrong), OUTSIDE));
            calls.add(new Call("child(1, " + wrong + ")", x -> x.child(1, wrong), OUTSIDE));
            calls.add(new Call("street(" + wrong + ")", x -> x.street(wrong), OUTSIDE));
            calls.add(new Call("first(" + wrong + ")", x -> x.first(wrong), OUTSIDE));
            calls.add(new Call("fight(1, 2, " + wrong + ")", x -> x.fight(1, 2, wrong), OUTSIDE));
            calls.add(new Call("round(1, " + wrong + ")", x -> x.round(1, wrong), OUTSIDE));
            calls.add(new Call("ask(" + wrong + ")", x -> x.ask(wrong), OUTSIDE));
            calls.add(new Call("row(5, " + wrong + ")", x -> x.row(5, wrong), OUTSIDE));
            calls.add(new Call("lot(2, 1, 1, " + wrong + ", 0)", x -> x.lot(2, 1, 1, wrong, 0), StringNuts.GONE + OUTSIDE));
            calls.add(new Call("year(5, 9, " + wrong + ")", x -> x.year(5, 9, wrong), OUTSIDE));
        }
        for (int wrong : new int[] {LEAST, -1, 100, GREATEST}) {
            calls.add(new Call("row(" + wrong + ", 0)", x -> x.row(wrong, 0), OUTSIDE));
            calls.add(new Call("year(5, " + wrong + ", 0)", x -> x.year(5, wrong, 0), OUTSIDE));
            calls.add(new Call("told(" + wrong + ")", x -> x.told(wrong), OUTSIDE));
            calls.add(new Call("lot(" + wrong + ", 0, 0, 0, 0)", x -> x.lot(wrong, 0, 0, 0, 0), StringNuts.GONE + OUTSIDE));
        }
        for (int wrong : new int[] {LEAST, -1, 10000, GREATEST}) {
            calls.add(new Call("year(" + wrong + ", 5, 0)", x -> x.year(wrong, 5, 0), OUTSIDE));
        }
    }

    private static void refusalsByArgumentsChangeNothing() {
        DUE.sentence("They change nothing");
        for (Call call : refusedByArguments()) {
            TWINS.unchanged("new: " + call.text, StringNuts::new, call.on, call.answer);
            TWINS.unchanged("sound: " + call.text, EdgesOfTermsTest::sound, call.on, call.answer);
            TWINS.unchanged("full: " + call.text, EdgesOfTermsTest::full, call.on, call.answer);
        }
    }

    private static void refusedAs(String when, Supplier<StringNuts> maker, long answer, boolean judged) {
        List<Call> calls = new ArrayList<>(List.of(
                new Call("behind(1, 0)", x -> x.behind(1, 0), answer),
                new Call("child(1, 0)", x -> x.child(1, 0), answer),
                new Call("street(0)", x -> x.street(0), answer),
                new Call("first(0)", x -> x.first(0), answer),
                new Call("done()", StringNuts::done, answer),
                new Call("judge(2)", x -> x.judge(2), answer)));
        if (judged) {
            calls.add(new Call("judge(0)", x -> x.judge(0), answer));
            calls.add(new Call("judge(1)", x -> x.judge(1), answer));
        }
        for (Call call : calls) {
            TWINS.unchanged(when + call.text, maker, call.on, call.answer);
        }
    }

    private static void refusalsByStateChangeNothing() {
        DUE.sentence("They change nothing");
        refusedAs("a fault: ", EdgesOfTermsTest::faulty, NO, true);
        refusedAs("a fault on a full pad: ", EdgesOfTermsTest::fullAndFaulty, NO, true);
        refusedAs("an act that can not be: ", EdgesOfTermsTest::impossible, STATE, false);
        TWINS.unchanged("full: say('A')", EdgesOfTermsTest::full, x -> x.say('A'), FULL);
        TWINS.unchanged("full: say('.')", EdgesOfTermsTest::full, x -> x.say('.'), FULL);
        TWINS.unchanged("full, faulty: say('1')", EdgesOfTermsTest::fullAndFaulty, x -> x.say('1'), FULL);
        TWINS.unchanged("full: harder(3, 4)", EdgesOfTermsTest::full, x -> x.harder(3, 4), FULL);
        TWINS.unchanged("0 broken: fight(0, 1, 0)", EdgesOfTermsTest::sound, x -> x.fight(0, 1, 0), STATE);
        TWINS.unchanged("0 broken: fight(1, 0, 2)", EdgesOfTermsTest::sound, x -> x.fight(1, 0, 2), STATE);
        TWINS.unchanged("0 broken: cup(3)", EdgesOfTermsTest::sound, x -> x.cup(3), STATE);
        TWINS.unchanged("0 broken: round(0, 0)", EdgesOfTermsTest::sound, x -> x.round(0, 0), NONE);
        TWINS.unchanged("nothing kept: restore(1)", EdgesOfTermsTest::sound, x -> x.restore(1), STATE);
        TWINS.unchanged("nothing kept: restore(0)", StringNuts::new, x -> x.restore(0), STATE);
    }

    /** Nor do the calls that only tell; the pad's days are told as often as asked and not done. */
    private static void questionsChangeNothing() {
        DUE.sentence("(As things are now.)");
        TWINS.unchanged("fault()", EdgesOfTermsTest::faulty, StringNuts::fault, 7);
        TWINS.unchanged("judge(0)", EdgesOfTermsTest::impossible, x -> x.judge(0), 1);
        TWINS.unchanged("judge(1)", EdgesOfTermsTest::impossible, x -> x.judge(1), 4);
        TWINS.unchanged("judge(2)", EdgesOfTermsTest::sound, x -> x.judge(2), 1);
        TWINS.unchanged("behind(2, 1)", EdgesOfTermsTest::sound, x -> x.behind(2, 1), 3);
        TWINS.unchanged("child(1, 1)", EdgesOfTermsTest::sound, x -> x.child(1, 1), 0x32);
        TWINS.unchanged("street(0)", EdgesOfTermsTest::sound, x -> x.street(0), 5);
        TWINS.unchanged("first(1)", EdgesOfTermsTest::sound, x -> x.first(1), 2);
        TWINS.unchanged("fight(1, 2, 0)", EdgesOfTermsTest::sound, x -> x.fight(1, 2, 0), 2);
        TWINS.unchanged("round(8, 0)", EdgesOfTermsTest::sound, x -> x.round(8, 0), 8);
        TWINS.unchanged("cup(7)", StringNuts::new, x -> x.cup(7), 315);
        TWINS.unchanged("orders(-1)", EdgesOfTermsTest::sound, x -> x.orders(-1), 20);
        TWINS.unchanged("ask(1)", EdgesOfTermsTest::sound, x -> x.ask(1), 10);
        TWINS.unchanged("row(99, 1)", EdgesOfTermsTest::sound, x -> x.row(99, 1), 1);
        TWINS.unchanged("lot(5, 1, 4, 0, 1)", EdgesOfTermsTest::sound, x -> x.lot(5, 1, 4, 0, 1), 31);
        TWINS.unchanged("told(0)", EdgesOfTermsTest::sound, x -> x.told(0), 9);
    }

    private static void signsAreNotRefusedForWhereTheyStand() {
        DUE.sentence("(a sign that is said changes what fault() tells)");
        StringNuts x = new StringNuts();
        DUE.is("fault() of nothing", x.fault(), NONE);
        DUE.is("say('A')", x.say('A'), 1);
        DUE.is("fault(), more must come", x.fault(), 1);
        DUE.is("say('0')", x.say('0'), 2);
        DUE.is("fault(), it came", x.fault(), NONE);
        DUE.is("say('~'), which can not stand there", x.say('~'), 3);
        DUE.is("fault(), there", x.fault(), 2);
        DUE.is("say(32), refused", x.say(32), OUTSIDE);
        DUE.is("fault() stays", x.fault(), 2);
        DUE.is("say('A') behind a fault", x.say('A'), 4);
        DUE.is("fault() stays the first", x.fault(), 2);
    }

    // ---- fractions, sets, the last call

    private static void fractions() {
        DUE.sentence("Fractions are told in lowest terms by part: 0 the upper, 1 the lower number");
        StringNuts x = new StringNuts();
        DUE.is("none: upper", x.lot(1, 1, 1, 0, 0), 0);
        DUE.is("none: lower", x.lot(1, 1, 1, 0, 1), 1);
        DUE.is("none of many: lower", x.lot(5, 17, 4, 0, 1), 1);
        DUE.is("all: upper", x.lot(5, 0, 5, 0, 0), 1);
        DUE.is("all: lower", x.lot(5, 0, 5, 0, 1), 1);
        DUE.is("a whole number: upper", x.lot(5, 0, 5, 1, 0), 5);
        DUE.is("a whole number: lower", x.lot(5, 0, 5, 1, 1), 1);
        DUE.is("5 of 15: upper", x.lot(4, 10, 1, 0, 0), 1);
        DUE.is("5 of 15: lower", x.lot(4, 10, 1, 0, 1), 3);
        DUE.sentence("refused with GONE and the refusal");
        DUE.is("lot(0, 0, 0, 0, 0)", x.lot(0, 0, 0, 0, 0), -1000000000000000002L);
        DUE.is("lot(1, 0, 0, 0, -1)", x.lot(1, 0, 0, 0, -1), -1000000000000000002L);
        DUE.is("lot(1, 0, 0, 0, 2)", x.lot(1, 0, 0, 0, 2), -1000000000000000002L);
    }

    private static void sets() {
        DUE.sentence("Sets are bits.");
        StringNuts none = new StringNuts();
        DUE.is("street(0), none", none.street(0), 0);
        DUE.is("told(1), none", none.told(1), 0);
        DUE.is("round(0, 1), none", none.round(0, 1), 0);
        StringNuts all = new StringNuts();
        for (int nut = 0; nut < 10; nut++) {
            all.nut(nut, 60, 2, 3);
        }
        DUE.is("child(3, 1), all", all.child(3, 1), 1023);
        DUE.is("child(0, 1), none", all.child(0, 1), 0);
        DUE.is("round(9, 1), all others", all.round(9, 1), 511);
        Due.say(all, "A*B*C*D*E*F*G*H*I*J*");
        DUE.is("street(0), all", all.street(0), 1023);
        all.done();
        DUE.is("told(1), all", all.told(1), 1023);
    }

    private static void theLastCall() {
        DUE.sentence("An object is used for at most 512 calls after it has been made");
        StringNuts x = new StringNuts();
        for (int call = 1; call <= 511; call++) {
            boolean wipes = call % 61 == 0;
            DUE.is("call " + call, wipes ? x.wipe() : x.say('.'), wipes ? 60 : call % 61);
        }
        DUE.is("call 512", x.told(0), 511 % 61);
    }
}
