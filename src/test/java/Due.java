/** Counts and prints the calls whose answer is not the one that is due. */
final class Due {
    private int wrong;
    private int asked;

    void is(String call, long got, long want) {
        asked++;
        if (got != want) {
            wrong++;
            System.out.println(call + " answered " + got + ", due is " + want);
        }
    }

    void that(String what, boolean holds) {
        is(what, holds ? 1 : 0, 1);
    }

    boolean allRight() {
        return wrong == 0;
    }

    void end() {
        System.out.println(asked + " answers, " + wrong + " not as due");
        if (wrong != 0) {
            System.exit(1);
        }
    }

    static void say(StringNuts nuts, String text) {
        for (char sign : text.toCharArray()) {
            nuts.say(sign);
        }
    }

    static void sayAnew(StringNuts nuts, String text) {
        nuts.wipe();
        say(nuts, text);
    }

    /** Does days that are as told; the tests' own mistakes shall not pass unseen. */
    void doDays(StringNuts nuts, String text) {
        sayAnew(nuts, text);
        that("\"" + text + "\" can be done", nuts.done() >= 0);
    }
}
