import java.util.NoSuchElementException;

/** Of the terms what waits; promises 4 (patient), 16 (waits). */
public final class WaitsTest {
    private static final Class<NoSuchElementException> NO_SUCH = NoSuchElementException.class;

    public static void main(String[] args) {
        all();
        Check.finish();
    }

    static void all() {
        termsRefused();
        termsWaits();
        termsEightAtMost();
        termsSomethingComes();
        termsNothingComes();
        termsOfAnyBound();
        termsComesByRecovery();
        termsFirstOneFirst();
        termsAsLongAsItCan();
        termsEightGoAtOnce();
        promise4SetToWait();
        promise4GoesOnWaiting();
        promise4NoneSuch();
        promise4Ended();
        promise4SoAlready();
        promise16HowMuch();
        promise16NoneSuch();
    }

    private static void termsRefused() {
        Check.terms("WAITS: a TAKE or GIVE above the own SHARE is refused");
        LentBounds x = Make.tens();
        Check.due("the share", x.take(0, 0, 10), 1);
        Check.due("one above nothing", x.take(0, 0, 1), 0);
        Check.due("one above the share of another", x.take(0, 1, 11), 0);
        Check.due("give the share", x.take(0, 2, -20), 1);
        Check.due("give one above nothing", x.take(0, 2, -1), 0);
        Check.due("give one above the share of another", x.take(0, 3, -21), 0);
        Check.due("what is on its way is not the own", x.lend(0, 0, 1, 0, 5), 1);
        Check.due("take it", x.take(0, 0, 1), 0);
    }

    private static void termsWaits() {
        Check.terms("or, if one is set to WAIT, waits");
        LentBounds x = Make.tens();
        x.patient(0, true);
        Check.due("the share", x.take(0, 0, 10), 1);
        Check.due("one above nothing", x.take(0, 0, 1), 2);
        Check.due("give one above the share", x.take(0, 0, -31), 2);
        Check.due("another one's", x.take(0, 1, 11), 0);
        Check.due("how many", x.person(0, 2), 2);
        Check.due("value", x.sum(0, 0), 50);
    }

    private static void termsEightAtMost() {
        Check.terms("(8 of a PERSON at most, one after the other)");
        LentBounds x = Make.tens();
        x.patient(0, true);
        x.patient(5, true);
        for (int k = 0; k < 8; k++) {
            Check.due("waits", x.take(0, 0, 11 + k), 2);
            Check.due("waits of another one", x.take(0, 5, -21 - k), 2);
        }
        Check.due("the ninth", x.take(0, 0, 19), 0);
        Check.due("the ninth of the other one", x.take(0, 5, -29), 0);
        for (int k = 0; k < 8; k++) {
            Check.due("waits(0, k)", x.waits(0, k), 11 + k);
            Check.due("waits(5, k)", x.waits(5, k), -21 - k);
        }
    }

    private static void termsSomethingComes() {
        Check.terms("whenever something comes to that PERSON");
        LentBounds x = Make.tens();
        x.patient(0, true);
        x.patient(2, true);
        x.take(0, 0, 11);
        x.take(0, 2, 13);
        x.lend(0, 0, 1, 0, 1);
        Check.due("under way", x.person(0, 2), 1);
        x.lend(0, 0, 1, 2, 1);
        x.deliver(2);
        Check.due("to another one", x.person(0, 2), 1);
        Check.due("too little", x.person(2, 2), 1);
        Check.due("it comes", x.deliver(1), 1);
        Check.due("gone", x.person(0, 2), 0);
        Check.due("value", x.sum(0, 0), 49);
        Check.dueShares(x, 0, 0, 0, 8, 11);
        Check.dueShares(x, 0, 1, 31, 20, 20);
    }

    private static void termsNothingComes() {
        Check.terms("whenever something comes to that PERSON");
        LentBounds x = Make.weighed(0, 1, 1, 1, 1, 1);
        x.bound(-50, 0, 50);
        x.patient(1, true);
        x.lend(0, 0, 2, 1, 1);
        x.deliver(1);
        x.take(0, 1, -12);
        x.take(0, 1, 2);
        Check.due("an own take makes room, but it waits", x.person(1, 2), 1);
        x.deliver(1);
        Check.due("a second delivery brings nothing", x.person(1, 2), 1);
        x.bound(-5, 0, 5);
        Check.due("a new bound brings nothing", x.person(1, 2), 1);
        x.lend(0, 0, 2, 1, 1);
        x.lose(2);
        Check.due("a lost row brings nothing", x.person(1, 2), 1);
        x.lend(0, 0, 1, 0, 1);
        Check.due("nor does an own row", x.person(1, 2), 1);
        x.deliver(3);
        x.lend(0, 0, 0, 3, 1);
        x.deliver(4);
        x.end(0);
        Make.vouchAll(x, 0);
        Check.due("one that has nothing is recovered", x.person(0, 0), 2);
        Check.due("by whom nothing comes", x.person(1, 2), 1);
        x.lend(0, 1, 2, 1, 1);
        x.deliver(5);
        Check.due("something comes", x.person(1, 2), 0);
    }

    private static void termsOfAnyBound() {
        Check.terms("(of any BOUND)");
        LentBounds x = Make.tens();
        x.bound(0, 6, 6);
        x.patient(0, true);
        x.take(0, 0, -21);
        x.take(1, 0, 2);
        x.take(0, 0, 1);
        x.lend(1, 0, 1, 0, 1);
        x.deliver(1);
        Check.due("both went", x.person(0, 2), 0);
        Check.due("value of 0", x.sum(0, 0), 80);
        Check.due("value of 1", x.sum(1, 0), 4);
    }

    private static void termsComesByRecovery() {
        Check.terms("those that wait are looked at in turn");
        LentBounds x = Make.tens();
        x.patient(1, true);
        x.take(0, 1, 12);
        x.take(0, 1, -36);
        x.take(0, 1, 37);
        x.end(0);
        Make.vouchAll(x, 0);
        // 2 down and 4 up come to each: 12 goes (0, 36), -36 goes (36, 0), 37 stays
        Check.due("waits(1, 0)", x.waits(1, 0), 37);
        Check.due("how many", x.person(1, 2), 1);
        Check.dueShares(x, 0, 0, 0, 36, 12, 12, 12, 12);
        Check.dueShares(x, 0, 1, 0, 0, 24, 24, 24, 24);
        Check.due("value", x.sum(0, 0), 84);
        Check.due("total(2)", x.total(2), 2);
    }

    private static void termsFirstOneFirst() {
        Check.terms("the first one first");
        LentBounds x = Make.tens();
        x.patient(0, true);
        x.take(0, 0, 15);
        x.take(0, 0, -21);
        x.take(0, 0, 11);
        x.lend(0, 0, 1, 0, 4);
        x.lend(0, 1, 1, 0, 1);
        x.deliver(1);
        x.deliver(2);
        Check.due("the first one can't, so none is done", x.person(0, 2), 3);
        Check.due("value", x.sum(0, 0), 60);
        Check.due("waits(0, 0)", x.waits(0, 0), 15);
    }

    private static void termsAsLongAsItCan() {
        Check.terms("as long as the first one can be done, it is, and goes");
        LentBounds x = Make.tens();
        x.patient(0, true);
        x.take(0, 0, 15);
        x.take(0, 0, -22);
        x.take(0, 0, 21);
        x.take(0, 0, 30);
        x.take(0, 0, -40);
        x.lend(0, 0, 1, 0, 5);
        x.deliver(1);
        // 15 goes (down 0, up 35), then -22 (22, 13), then 21 (1, 34); 30 stays, and -40 behind it
        Check.due("three went", x.person(0, 2), 2);
        Check.due("waits(0, 0)", x.waits(0, 0), 30);
        Check.due("waits(0, 1)", x.waits(0, 1), -40);
        Check.dueShares(x, 0, 0, 1, 5);
        Check.dueShares(x, 0, 1, 34, 20);
        Check.due("value", x.sum(0, 0), 46);
        Check.due("total(2)", x.total(2), 3);
        x.lend(0, 1, 3, 0, 10);
        x.deliver(2);
        Check.due("30 holds up -40", x.person(0, 2), 2);
    }

    private static void termsEightGoAtOnce() {
        Check.terms("as long as the first one can be done, it is, and goes");
        LentBounds x = Make.tens();
        x.patient(0, true);
        long[] vs = {11, -31, 31, -30, 29, -28, 27, -26};
        for (long v : vs) {
            Check.due("waits", x.take(0, 0, v), 2);
        }
        x.lend(0, 0, 5, 0, 1);
        x.deliver(1);
        Check.due("all went", x.person(0, 2), 0);
        Check.dueThrow("none is left", NO_SUCH, () -> x.waits(0, 0));
        Check.due("total(2)", x.total(2), 8);
        Check.due("value", x.sum(0, 0), 77);
        Check.dueShares(x, 0, 0, 28);
        Check.dueShares(x, 0, 1, 3);
    }

    private static void promise4SetToWait() {
        Check.promise(4, "A PERSON is set to WAIT, or not (what waits goes on waiting): true");
        LentBounds x = Make.tens();
        Check.due("on", x.patient(0, true), true);
        Check.due("person(0, 1)", x.person(0, 1), 1);
        Check.due("person(1, 1)", x.person(1, 1), 0);
        Check.due("a take waits", x.take(0, 0, 11), 2);
        Check.due("off", x.patient(0, false), true);
        Check.due("person(0, 1)", x.person(0, 1), 0);
        Check.due("a take is refused", x.take(0, 0, 12), 0);
        Check.due("on again", x.patient(0, true), true);
        Check.due("a take waits again", x.take(0, 0, 12), 2);
    }

    private static void promise4GoesOnWaiting() {
        Check.promise(4, "(what waits goes on waiting)");
        LentBounds x = Make.tens();
        x.patient(0, true);
        x.take(0, 0, 11);
        x.take(0, 0, -31);
        x.patient(0, false);
        Check.due("how many", x.person(0, 2), 2);
        Check.due("waits(0, 0)", x.waits(0, 0), 11);
        Check.due("waits(0, 1)", x.waits(0, 1), -31);
        x.lend(0, 0, 1, 0, 1);
        x.deliver(1);
        Check.due("they are done", x.person(0, 2), 0);
        Check.due("value", x.sum(0, 0), 80);
    }

    private static void promise4NoneSuch() {
        Check.promise(4, "false if there is none such");
        LentBounds x = Make.tens();
        String before = State.of(x);
        for (int person : Make.NO_PEOPLE) {
            Check.due("on " + person, x.patient(person, true), false);
            Check.due("off " + person, x.patient(person, false), false);
        }
        Check.dueSame("nobody's patience", x, before);
    }

    private static void promise4Ended() {
        Check.promise(4, "it is ENDED");
        LentBounds x = Make.tens();
        x.patient(1, true);
        Make.endAll(x, 0, 1);
        String before = State.of(x);
        Check.due("on", x.patient(0, true), false);
        Check.due("off", x.patient(1, false), false);
        Check.dueSame("an ended one's patience", x, before);
        Make.vouchAll(x, 0);
        Check.due("a recovered one", x.patient(0, true), false);
        Check.due("person(0, 1)", x.person(0, 1), 0);
    }

    private static void promise4SoAlready() {
        Check.promise(4, "or it is so already");
        LentBounds x = Make.tens();
        Check.due("off at first", x.patient(0, false), false);
        x.patient(0, true);
        x.take(0, 0, 11);
        String before = State.of(x);
        Check.due("on again", x.patient(0, true), false);
        Check.dueSame("on again", x, before);
        Check.due("off", x.patient(0, false), true);
        Check.due("off again", x.patient(0, false), false);
        Check.due("person(0, 1)", x.person(0, 1), 0);
    }

    private static void promise16HowMuch() {
        Check.promise(16, "How much the k-th one that waits of a PERSON TAKES (below 0: GIVES)");
        LentBounds x = Make.tens();
        x.patient(1, true);
        long[] vs = {11, -21, Make.MOST, -Make.MOST, 12, 12, -30, 13};
        for (long v : vs) {
            x.take(0, 1, v);
        }
        for (int k = 0; k < 8; k++) {
            Check.due("waits(1, " + k + ")", x.waits(1, k), vs[k]);
        }
        x.lend(0, 0, 0, 1, 1);
        x.deliver(1);
        // 11 goes, then -21
        for (int k = 0; k < 6; k++) {
            Check.due("waits(1, " + k + ")", x.waits(1, k), vs[k + 2]);
        }
    }

    private static void promise16NoneSuch() {
        Check.promise(16, "NoSuchElementException: there is none such");
        LentBounds x = Make.tens();
        x.patient(1, true);
        x.take(0, 1, 100);
        x.take(0, 1, -200);
        for (int k : new int[] {-1, 2, 7, 8, Integer.MIN_VALUE, Integer.MAX_VALUE}) {
            Check.dueThrow("waits(1, " + k + ")", NO_SUCH, () -> x.waits(1, k));
        }
        for (int person : Make.NO_PEOPLE) {
            Check.dueThrow("waits(" + person + ", 0)", NO_SUCH, () -> x.waits(person, 0));
        }
        Check.dueThrow("of one with whom none waits", NO_SUCH, () -> x.waits(0, 0));
        for (int k = 2; k < 8; k++) {
            x.take(0, 1, 100);
        }
        Check.due("the eighth", x.waits(1, 7), 100);
        Check.dueThrow("the ninth", NO_SUCH, () -> x.waits(1, 8));
        x.end(1);
        Check.dueThrow("of an ended one", NO_SUCH, () -> x.waits(1, 0));
    }
}
