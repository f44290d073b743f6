import java.io.IOException;
import java.nio.file.Files;
import java.nio.file.Path;

/** Counts and prints the calls whose answer is not the one that is due. */
final class Due {
    private static final Path DOCUMENT = Path.of("../shared/DOC.md");

    private int wrong;
    private int asked;
    private int sentences;
    private String sentence = "";

    /** What is asked from here on is asked for these words of the document. */
    void sentence(String words) {
        sentence = "[" + words + "] ";
        sentences++;
        if (!isInDocument(words)) {
            // No failure: new words there want these tests read again, not the class changed.
            System.out.println("not in the document: " + words);
        }
    }

    private static boolean isInDocument(String words) {
        try {
            return !Files.exists(DOCUMENT) || Files.readString(DOCUMENT).contains(words);
        } catch (IOException unreadable) {
            return true;
        }
    }

    void is(String call, long got, long want) {
        asked++;
        if (got != want) {
            wrong++;
            System.out.println(sentence + call + " answered " + got + ", due is " + want);
        }
    }

    void that(String what, boolean holds) {
        is(what, holds ? 1 : 0, 1);
    }

    boolean allRight() {
        return wrong == 0;
    }

    void end() {
        String heads = sentences == 0 ? "" : sentences + " sentences, ";
        System.out.println(heads + asked + " answers, " + wrong + " not as due");
        if (wrong != 0) {
            System.exit(1);
        }
    }

    static void say(StringNuts nuts, String text) {
        for (char sign : text.toCharArray()) {
            nuts.say(sign);
        }
    }

    static StringNuts told(String text) {
        StringNuts nuts = new StringNuts();
        say(nuts, text);
        return nuts;
    }

    static void sayTimes(StringNuts nuts, int sign, int times) {
        for (int i = 0; i < times; i++) {
            nuts.say(sign);
        }
    }

    static void sayAnew(StringNuts nuts, String text) {
        nuts.wipe();
        say(nuts, text);
    }

    /** Does days that are as told; the tests' own mistakes shall not pass unseen. */
    void doDays(StringNuts nuts, String text) {
        sayAnew(nuts, text);
        that("\"" + text + "\" can be done", nuts.done() >= 0);
    }
}
