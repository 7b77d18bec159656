import java.util.NoSuchElementException;

/** Of the terms who is ended, and what is stuck; promises 10 (end), 17 (person). */
public final class EndsTest {
    public static void main(String[] args) {
        all();
        Check.finish();
    }

    static void all() {
        termsForGood();
        termsWaitsAreGone();
        termsSharesAreStuck();
        termsLentToIt();
        termsDeliveredToIt();
        promise10Ended();
        promise10AllCanBe();
        promise10NoneSuch();
        promise10EndedBefore();
        promise17State();
        promise17SetToWait();
        promise17HowManyWait();
        promise17HowManyTold();
        promise17NoneSuch();
        promise17AnotherWhat();
    }

    private static void dueNothingByIt(LentBounds x, int person) {
        String before = State.of(x);
        Check.due("weigh", x.weigh(person, 1), false);
        Check.due("patient on", x.patient(person, true), false);
        Check.due("patient off", x.patient(person, false), false);
        Check.due("take", x.take(0, person, 1), -1);
        Check.due("give", x.take(0, person, -1), -1);
        Check.due("lend from it", x.lend(0, 0, person, 0, 1), -1);
        Check.due("lend to it", x.lend(0, 0, 0, person, 1), -1);
        Check.due("ask", x.ask(0, 0, person, 1), -1);
        Check.due("end", x.end(person), false);
        Check.due("vouch of another one", x.vouch(person, 4), -1);
        Check.due("vouch of itself", x.vouch(person, person), -1);
        Check.dueSame("what is not done by it", x, before);
    }

    private static void termsForGood() {
        Check.terms("ENDED is a PERSON for good: nothing can be done by it any more");
        LentBounds x = Make.tens();
        Make.endAll(x, 3, 4);
        dueNothingByIt(x, 3);
        Make.vouchAll(x, 3);
        Check.due("recovered", x.person(3, 0), 2);
        dueNothingByIt(x, 3);
        x.bound(0, 60, 60);
        Check.due("no share of a later bound", x.share(1, 0, 3), 0);
    }

    private static void termsWaitsAreGone() {
        Check.terms("what it waits for is gone");
        LentBounds x = Make.tens();
        x.patient(3, true);
        x.patient(4, true);
        for (int k = 0; k < 8; k++) {
            x.take(0, 3, 11 + k);
            x.take(0, 4, 11 + k);
        }
        x.lend(0, 0, 0, 3, 5);
        x.end(3);
        Check.due("how many", x.person(3, 2), 0);
        Check.dueThrow("waits", NoSuchElementException.class, () -> x.waits(3, 0));
        Check.due("how many of another one", x.person(4, 2), 8);
        x.deliver(1);
        Check.due("none is done", x.sum(0, 0), 60);
        Check.due("share", x.share(0, 0, 3), 15);
        Check.due("total(2)", x.total(2), 0);
        Check.due("total(3)", x.total(3), 0);
    }

    private static void termsSharesAreStuck() {
        Check.terms("its SHARES are STUCK");
        LentBounds x = Make.tens();
        x.bound(0, 6, 6);
        x.take(0, 3, 4);
        x.end(3);
        Check.dueSums(x, 0, 50, 100, 0, 0, 6, 24);
        Check.dueSums(x, 1, 5, 0, 0, 0, 1, 0);
        Check.due("it keeps them", x.share(0, 0, 3), 6);
        Check.due("it keeps them", x.share(0, 1, 3), 24);
    }

    private static void termsLentToIt() {
        Check.terms("and so is what is LENT to it and not DELIVERED yet");
        LentBounds x = Make.tens();
        x.lend(0, 0, 0, 3, 4);
        x.lend(0, 1, 0, 3, 5);
        x.lend(0, 0, 3, 0, 2);
        x.lend(0, 1, 3, 0, 3);
        Check.dueSums(x, 0, 54, 112, 6, 8, 0, 0);
        x.end(3);
        // what it lent to another one is under way still
        Check.dueSums(x, 0, 46, 95, 2, 3, 12, 22);
        Check.due("row(1, 4)", x.row(1, 4), 0);
        x.lose(1);
        Check.dueSums(x, 0, 46, 95, 2, 3, 12, 22);
    }

    private static void termsDeliveredToIt() {
        Check.terms("(it is when it is DELIVERED, too)");
        LentBounds x = Make.tens();
        x.lend(0, 0, 0, 3, 4);
        x.end(3);
        Check.dueSums(x, 0, 46, 100, 0, 0, 14, 20);
        Check.due("it comes", x.deliver(1), 1);
        Check.dueSums(x, 0, 46, 100, 0, 0, 14, 20);
        Check.due("share", x.share(0, 0, 3), 14);
        Check.due("again", x.deliver(1), 0);
        Check.dueSums(x, 0, 46, 100, 0, 0, 14, 20);
    }

    private static void promise10Ended() {
        Check.promise(10, "A PERSON is ENDED: true");
        LentBounds x = Make.tens();
        Check.due("end(0)", x.end(0), true);
        Check.due("person(0, 0)", x.person(0, 0), 1);
        for (int person = 1; person < 6; person++) {
            Check.due("person(" + person + ", 0)", x.person(person, 0), 0);
        }
        Check.due("value", x.sum(0, 0), 60);
    }

    private static void promise10AllCanBe() {
        Check.promise(10, "A PERSON is ENDED: true");
        LentBounds x = Make.tens();
        for (int person = 5; person >= 0; person--) {
            Check.due("end(" + person + ")", x.end(person), true);
        }
        for (int person = 0; person < 6; person++) {
            Check.due("person(" + person + ", 0)", x.person(person, 0), 1);
        }
        Check.dueSums(x, 0, 0, 0, 0, 0, 60, 120);
    }

    private static void promise10NoneSuch() {
        Check.promise(10, "false if there is none such");
        LentBounds x = Make.tens();
        String before = State.of(x);
        for (int person : Make.NO_PEOPLE) {
            Check.due("end(" + person + ")", x.end(person), false);
        }
        Check.dueSame("nobody's end", x, before);
    }

    private static void promise10EndedBefore() {
        Check.promise(10, "or it is ENDED");
        LentBounds x = Make.tens();
        x.end(0);
        x.vouch(1, 0);
        String before = State.of(x);
        Check.due("again", x.end(0), false);
        Check.dueSame("a second end", x, before);
        Make.vouchAll(x, 0);
        String recovered = State.of(x);
        Check.due("a recovered one", x.end(0), false);
        Check.dueSame("a recovered one's end", x, recovered);
    }

    private static void promise17State() {
        Check.promise(17, "Of a PERSON, what 0: 0 well, 1 ENDED, 2 RECOVERED");
        LentBounds x = Make.tens();
        Check.due("well", x.person(5, 0), 0);
        x.end(5);
        Check.due("ended", x.person(5, 0), 1);
        Make.vouchAll(x, 5);
        Check.due("recovered", x.person(5, 0), 2);
        Check.due("another one", x.person(0, 0), 0);
    }

    private static void promise17SetToWait() {
        Check.promise(17, "1: 1 if it is set to WAIT, else 0");
        LentBounds x = Make.tens();
        Check.due("at first", x.person(5, 1), 0);
        x.patient(5, true);
        Check.due("on", x.person(5, 1), 1);
        Check.due("another one", x.person(4, 1), 0);
        x.patient(5, false);
        Check.due("off", x.person(5, 1), 0);
        x.patient(4, true);
        x.end(4);
        Check.due("an ended one keeps it", x.person(4, 1), 1);
        Make.vouchAll(x, 4);
        Check.due("a recovered one, too", x.person(4, 1), 1);
    }

    private static void promise17HowManyWait() {
        Check.promise(17, "2: how many wait");
        LentBounds x = Make.tens();
        x.patient(5, true);
        for (int k = 0; k < 8; k++) {
            Check.due("how many", x.person(5, 2), k);
            x.take(0, 5, 11);
        }
        x.take(0, 5, 11);
        Check.due("8 at most", x.person(5, 2), 8);
        Check.due("another one", x.person(0, 2), 0);
        x.lend(0, 0, 0, 5, 1);
        x.deliver(1);
        Check.due("one went", x.person(5, 2), 7);
        x.end(5);
        Check.due("gone", x.person(5, 2), 0);
    }

    private static void promise17HowManyTold() {
        Check.promise(17, "3: how many have told of it (of one that is ENDED)");
        LentBounds x = Make.tens();
        Check.due("of a well one", x.person(2, 3), 0);
        x.vouch(0, 2);
        x.end(2);
        Check.due("of one that is just ended", x.person(2, 3), 0);
        x.vouch(0, 2);
        x.vouch(5, 2);
        x.vouch(5, 2);
        x.vouch(2, 2);
        Check.due("two", x.person(2, 3), 2);
        x.end(5);
        Check.due("one that told is ended: it has told", x.person(2, 3), 2);
        x.vouch(1, 2);
        x.vouch(3, 2);
        x.vouch(4, 2);
        Check.due("recovered", x.person(2, 3), 5);
        Check.due("of another one", x.person(5, 3), 0);
    }

    private static void promise17NoneSuch() {
        Check.promise(17, "NONE if there is none such");
        LentBounds x = Make.tens();
        for (int person : Make.NO_PEOPLE) {
            for (int what = 0; what < 4; what++) {
                Check.due("person(" + person + ", " + what + ")", x.person(person, what), -1);
            }
        }
    }

    private static void promise17AnotherWhat() {
        Check.promise(17, "or for another what");
        LentBounds x = Make.tens();
        for (int what : new int[] {-1, 4, 5, Integer.MIN_VALUE, Integer.MAX_VALUE}) {
            Check.due("person(0, " + what + ")", x.person(0, what), -1);
        }
    }
}
