import java.util.ArrayList;
import java.util.List;
import java.util.function.Supplier;
import java.util.function.ToLongFunction;

/**
 * Looks whether a call has changed anything: of two objects that were made alike one gets the call,
 * and then both must answer alike, to all that can be asked of them (some 360 calls).
 */
final class Twins {
    private final Due due;

    Twins(Due due) {
        this.due = due;
    }

    /** The call answers what it must, and changes nothing. */
    void unchanged(String call, Supplier<StringNuts> maker, ToLongFunction<StringNuts> asked, long want) {
        StringNuts one = maker.get();
        StringNuts other = maker.get();
        due.is(call, asked.applyAsLong(one), want);
        alike("behind " + call, one, other);
    }

    void alike(String when, StringNuts one, StringNuts other) {
        List<Long> got = answers(one);
        List<Long> want = answers(other);
        for (int i = 0; i < want.size(); i++) {
            due.is(when + ": answer " + i + " of Twins.answers", got.get(i), want.get(i));
        }
    }

    /** It is used up by this: images are restored and days are done. */
    private static List<Long> answers(StringNuts x) {
        List<Long> answers = new ArrayList<>();
        addTold(x, answers);
        addDays(x, answers);
        addRest(x, answers);
        for (int k = 0; k < 2; k++) {
            answers.add((long) x.restore(k));
            addTold(x, answers);
            addOrders(x, answers);
        }
        answers.add((long) x.done());
        addTold(x, answers);
        return answers;
    }

    private static void addTold(StringNuts x, List<Long> answers) {
        for (int what = 0; what < 60; what++) {
            if (what < 4 || what > 9) {
                answers.add((long) x.told(what));
            }
        }
    }

    private static void addDays(StringNuts x, List<Long> answers) {
        answers.add((long) x.fault());
        for (int what = 0; what < 3; what++) {
            answers.add((long) x.judge(what));
            answers.add((long) x.street(what));
        }
        for (int what = 0; what < 2; what++) {
            answers.add((long) x.first(what));
            for (int child = 0; child < 4; child++) {
                answers.add((long) x.child(child, what));
            }
        }
        for (int nut = 0; nut < 10; nut++) {
            for (int what = 0; what < 5; what++) {
                answers.add((long) x.behind(nut, what));
            }
        }
    }

    private static void addOrders(StringNuts x, List<Long> answers) {
        for (int i = -1; i < 4; i++) {
            answers.add((long) x.orders(i));
        }
        answers.add((long) x.ask(0));
        answers.add((long) x.ask(1));
    }

    private static void addRest(StringNuts x, List<Long> answers) {
        addOrders(x, answers);
        for (int nut = 0; nut < 10; nut++) {
            answers.add((long) x.round(nut, 1));
            answers.add((long) x.fight(nut, (nut + 1) % 10, 0));
        }
        answers.add((long) x.cup(7));
        answers.add((long) x.row(13, 1));
        answers.add(x.lot(5, 7, 0, 1, 0));
        for (int what = 0; what < 3; what++) {
            answers.add((long) x.year(5, 90, what));
        }
    }
}
