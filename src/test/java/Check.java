import java.util.ArrayList;
import java.util.List;

/** Counts and prints the calls whose answer is not the one that is due, with the sentence that they break. */
final class Check {
    private static final List<String[]> SENTENCES = new ArrayList<>();
    private static int asked = 0;
    private static int wrong = 0;
    private static int askedBefore = -1;
    private static String about = "";

    private Check() {
    }

    /** What follows tests these words of a promise, until the next words are named. */
    static void promise(int number, String words) {
        sentence("Promise " + number, words);
    }

    static void terms(String words) {
        sentence("Terms", words);
    }

    static void sentence(String section, String words) {
        dueTested();
        askedBefore = asked;
        SENTENCES.add(new String[] {section, words});
        about = section + ", '" + words + "': ";
    }

    /** What follows tests no words of the document. */
    static void noSentence() {
        dueTested();
        askedBefore = -1;
        about = "";
    }

    /** Pairs of a section's name and words of it. */
    static List<String[]> sentences() {
        return SENTENCES;
    }

    static void due(String call, long got, long want) {
        asked++;
        if (got != want) {
            say(call + " answered " + got + ", due is " + want);
        }
    }

    static void due(String call, boolean got, boolean want) {
        due(call, got ? 1L : 0L, want ? 1L : 0L);
    }

    static void dueThrow(String call, Class<? extends RuntimeException> want, Runnable run) {
        asked++;
        String got = "nothing";
        try {
            run.run();
        } catch (RuntimeException e) {
            got = e.getClass().getName();
        }
        if (!got.equals(want.getName())) {
            say(call + " threw " + got + ", due is " + want.getName());
        }
    }

    static void dueShares(LentBounds x, int bound, int side, long... want) {
        for (int person = 0; person < want.length; person++) {
            due("share(" + bound + ", " + side + ", " + person + ")", x.share(bound, side, person), want[person]);
        }
    }

    /** Sums 3 to 8 of a bound: shares down, up, under way down, up, stuck down, up. */
    static void dueSums(LentBounds x, int bound, long... want) {
        for (int k = 0; k < want.length; k++) {
            due("sum(" + bound + ", " + (k + 3) + ")", x.sum(bound, k + 3), want[k]);
        }
    }

    /** All that can be asked of the object is as it was. */
    static void dueSame(String calls, LentBounds x, String before) {
        asked++;
        String now = State.of(x);
        if (!now.equals(before)) {
            say(calls + " changed\n" + before + "into\n" + now);
        }
    }

    static void finish() {
        dueTested();
        String not = wrong + " of " + asked + " answers are not as due";
        System.out.println(wrong == 0 ? asked + " answers are as due" : not);
        if (wrong != 0) {
            System.exit(1);
        }
    }

    private static void dueTested() {
        if (asked == askedBefore) {
            say("nothing is tested");
        }
    }

    private static void say(String what) {
        wrong++;
        System.out.println(about + what);
    }
}
