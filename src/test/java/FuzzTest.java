import java.util.Random;

/** Long runs of calls, by draws with fixed seeds, compared with the model; all promises at once. */
public final class FuzzTest {
    private static final int RUNS = 1200;
    /** What an object answers behind so many calls is free. */
    private static final int CALLS = 512;
    /** So many calls are left for all that is told at the end; one draw makes two calls at the most. */
    private static final int LAST_CALLS = 65;
    private static final int[] ODD = {-1, -2, -7, 4, 5, 10, 11, 60, 99, 100, Integer.MAX_VALUE, Integer.MIN_VALUE};

    private final Due due;
    private final Random random;
    private final StringNuts nuts = new StringNuts();
    private final Model model = new Model();
    private final String run;
    private String rest = "";
    private int calls;

    private FuzzTest(Due due, int seed) {
        this.due = due;
        this.random = new Random(seed);
        this.run = "run " + seed + ": ";
    }

    public static void main(String[] args) {
        Due due = new Due();
        for (int seed = 0; seed < RUNS && due.allRight(); seed++) {
            FuzzTest test = new FuzzTest(due, seed);
            for (int draw = 0; draw < CALLS && test.calls + LAST_CALLS <= CALLS; draw++) {
                test.call();
            }
            test.toldInAll();
        }
        due.end();
    }

    /** Mostly 0 to n less 1, now and then a number that is seldom as told. */
    private int any(int n) {
        return random.nextInt(25) == 0 ? ODD[random.nextInt(ODD.length)] : random.nextInt(n);
    }

    private void is(String call, long got, long want) {
        calls++;
        due.is(run + call, got, want);
    }

    private int nextSign() {
        if (random.nextInt(120) == 0) {
            return random.nextInt(140);
        }
        if (rest.isEmpty()) {
            char nut = (char) ('A' + random.nextInt(10));
            int kind = random.nextInt(12);
            rest = kind < 7 ? nut + ">" + (char) ('A' + random.nextInt(10))
                    : kind < 9 ? nut + "*" : kind < 10 ? nut + "" + random.nextInt(4) : ".";
        }
        int sign = rest.charAt(0);
        rest = rest.substring(1);
        return sign;
    }

    private void say() {
        int sign = nextSign();
        is("say(" + sign + ")", nuts.say(sign), model.say(sign));
    }

    private void wipe() {
        rest = "";
        is("wipe()", nuts.wipe(), model.wipe());
    }

    private void call() {
        int kind = random.nextInt(40);
        if (kind < 17) {
            say();
        } else if (kind < 24) {
            days();
        } else if (kind < 28) {
            change();
        } else if (kind < 34) {
            fights();
        } else {
            parlour();
        }
    }

    private void days() {
        int a = any(10);
        int c = any(4);
        int w = any(5);
        switch (random.nextInt(9)) {
            case 0 -> is("fault()", nuts.fault(), model.fault());
            case 1 -> is("judge(" + w + ")", nuts.judge(w), model.judge(w));
            case 2 -> is("behind(" + a + ", " + w + ")", nuts.behind(a, w), model.behind(a, w));
            case 3 -> is("child(" + c + ", " + w % 2 + ")", nuts.child(c, w % 2), model.child(c, w % 2));
            case 4 -> is("street(" + w + ")", nuts.street(w), model.street(w));
            case 5 -> is("first(" + w % 2 + ")", nuts.first(w % 2), model.first(w % 2));
            case 6, 7 -> {
                int want = model.done();
                rest = want >= 0 ? "" : rest;
                is("done()", nuts.done(), want);
                // days that can not be would stand on the pad for long
                if (want == StringNuts.STATE || want == StringNuts.NO && random.nextInt(4) == 0) {
                    wipe();
                }
            }
            default -> is("behind(" + a + ", " + w + ")", nuts.behind(a, w), model.behind(a, w));
        }
    }

    private void change() {
        int a = any(10);
        int c = any(4);
        int h = 1 + any(99);
        int k = any(3);
        int i = any(2);
        switch (random.nextInt(5)) {
            case 0 -> is("nut(" + a + ", " + h + ", " + k + ", " + c + ")",
                    nuts.nut(a, h, k, c), model.nut(a, h, k, c));
            case 1 -> is("image(" + i + ")", nuts.image(i), model.image(i));
            case 2 -> is("restore(" + i + ")", nuts.restore(i), model.restore(i));
            default -> {
                int what = any(62);
                is("told(" + what + ")", nuts.told(what), model.told(what));
            }
        }
    }

    private void toldInAll() {
        for (int what = -1; what <= 61; what++) {
            is("told(" + what + ")", nuts.told(what), model.told(what));
        }
        due.that(run + "at most 512 calls", calls <= CALLS);
    }

    private void fights() {
        int a = any(10);
        int b = any(10);
        int w = any(3);
        switch (random.nextInt(6)) {
            case 0, 1, 2 -> is("fight(" + a + ", " + b + ", " + w + ")", nuts.fight(a, b, w), model.fight(a, b, w));
            case 3, 4 -> is("round(" + a + ", " + w + ")", nuts.round(a, w), model.round(a, w));
            default -> is("cup(" + a + ")", nuts.cup(a), model.cup(a));
        }
    }

    private void parlour() {
        int x = any(5);
        int y = any(5);
        int i = random.nextInt(3) == 0 ? -1 : any(random.nextBoolean() ? 20 : 121);
        int n = any(100);
        int w = any(3);
        int k = 1 + any(5);
        int part = any(2);
        int seed = random.nextInt(20) == 0 ? 9999 + random.nextInt(2) : any(10000);
        int r = any(6);
        switch (random.nextInt(9)) {
            case 0, 1 -> is("harder(" + x + ", " + y + ")", nuts.harder(x, y), model.harder(x, y));
            case 2 -> {
                if (random.nextInt(4) == 0) {
                    is("forget()", nuts.forget(), model.forget());
                }
            }
            case 3 -> is("orders(" + i + ")", nuts.orders(i), model.orders(i));
            case 4 -> is("ask(" + w + ")", nuts.ask(w), model.ask(w));
            case 5 -> is("row(" + n + ", " + w + ")", nuts.row(n, w), model.row(n, w));
            case 6 -> {
                int rank = any(32);
                is("lot(" + k + ", " + rank + ", " + r + ", " + w + ", " + part + ")",
                        nuts.lot(k, rank, r, w, part), model.lot(k, rank, r, w, part));
            }
            default -> is("year(" + seed + ", " + n + ", " + w + ")", nuts.year(seed, n, w), model.year(seed, n, w));
        }
    }
}
