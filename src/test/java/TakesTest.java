/** Of the terms takes and gives; promises 5 (take), 18 (total). */
public final class TakesTest {
    private static final long MOST = Make.MOST;

    public static void main(String[] args) {
        all();
        Check.finish();
    }

    static void all() {
        termsTakes();
        termsGives();
        promise5Done();
        promise5DoneGreat();
        promise5Waits();
        promise5Refused();
        promise5EightWait();
        promise5NoBoundOrPerson();
        promise5Ended();
        promise5Zero();
        promise5Beyond();
        promise18Bounds();
        promise18Rows();
        promise18Done();
        promise18Refused();
        promise18AnotherWhat();
    }

    private static void termsTakes() {
        Check.terms("What one TAKES (the value falls) goes from one's DOWN to one's UP");
        LentBounds x = Make.tens();
        Check.due("take 3", x.take(0, 1, 3), 1);
        Check.due("value", x.sum(0, 0), 57);
        Check.dueShares(x, 0, 0, 10, 7, 10, 10, 10, 10);
        Check.dueShares(x, 0, 1, 20, 23, 20, 20, 20, 20);
        Check.due("take all", x.take(0, 1, 7), 1);
        Check.dueShares(x, 0, 0, 10, 0, 10, 10, 10, 10);
        Check.dueShares(x, 0, 1, 20, 30, 20, 20, 20, 20);
    }

    private static void termsGives() {
        Check.terms("what one GIVES (it rises) from UP to DOWN");
        LentBounds x = Make.tens();
        Check.due("give 3", x.take(0, 1, -3), 1);
        Check.due("value", x.sum(0, 0), 63);
        Check.dueShares(x, 0, 0, 10, 13, 10, 10, 10, 10);
        Check.dueShares(x, 0, 1, 20, 17, 20, 20, 20, 20);
        Check.due("give all", x.take(0, 1, -17), 1);
        Check.dueShares(x, 0, 0, 10, 30, 10, 10, 10, 10);
        Check.dueShares(x, 0, 1, 20, 0, 20, 20, 20, 20);
    }

    private static void promise5Done() {
        Check.promise(5, "A PERSON TAKES v off a BOUND (GIVES -v to it, if v is below 0): 1 if it is done");
        LentBounds x = Make.tens();
        x.bound(0, 6, 6);
        Check.due("all of it", x.take(0, 0, 10), 1);
        Check.due("value", x.sum(0, 0), 50);
        Check.due("give all of it", x.take(0, 0, -30), 1);
        Check.due("value", x.sum(0, 0), 80);
        Check.due("of another bound", x.take(1, 0, 1), 1);
        Check.due("value of the other", x.sum(1, 0), 5);
        Check.due("floor", x.sum(0, 1), 0);
        Check.due("ceiling", x.sum(0, 2), 180);
        Check.dueSums(x, 0, 80, 100, 0, 0, 0, 0);
    }

    private static void promise5DoneGreat() {
        Check.promise(5, "A PERSON TAKES v off a BOUND (GIVES -v to it, if v is below 0): 1 if it is done");
        LentBounds x = Make.alone(-MOST, 0, MOST);
        Check.due("give the most", x.take(0, 0, -MOST), 1);
        Check.dueShares(x, 0, 0, 2 * MOST, 0);
        Check.due("take the most", x.take(0, 0, MOST), 1);
        Check.due("take the most again", x.take(0, 0, MOST), 1);
        Check.dueShares(x, 0, 0, 0, 0);
        Check.dueShares(x, 0, 1, 2 * MOST, 0);
        Check.due("value", x.sum(0, 0), -MOST);
    }

    private static void promise5Waits() {
        Check.promise(5, "2 if it WAITS");
        LentBounds x = Make.tens();
        x.patient(0, true);
        Check.due("one above the share", x.take(0, 0, 11), 2);
        Check.due("the most", x.take(0, 0, MOST), 2);
        Check.due("give one above the share", x.take(0, 0, -21), 2);
        Check.due("how many", x.person(0, 2), 3);
        Check.due("value", x.sum(0, 0), 60);
        Check.dueShares(x, 0, 0, 10);
        Check.dueShares(x, 0, 1, 20);
        Check.due("one within the share, though others wait", x.take(0, 0, 10), 1);
        Check.due("how many", x.person(0, 2), 3);
    }

    private static void promise5Refused() {
        Check.promise(5, "0 if it is refused");
        LentBounds x = Make.tens();
        Check.due("one above the share", x.take(0, 0, 11), 0);
        Check.due("give one above the share", x.take(0, 0, -21), 0);
        Check.due("the most", x.take(0, 0, MOST), 0);
        Check.due("give the most", x.take(0, 0, -MOST), 0);
        Check.due("2^32 + 1", x.take(0, 0, (1L << 32) + 1), 0);
        Check.due("give 2^32 + 1", x.take(0, 0, -(1L << 32) - 1), 0);
        Check.due("value", x.sum(0, 0), 60);
        Check.due("none waits", x.person(0, 2), 0);
        Check.dueShares(x, 0, 0, 10, 10);
        Check.dueShares(x, 0, 1, 20, 20);
        x.take(0, 0, 10);
        Check.due("of an empty share", x.take(0, 0, 1), 0);
        x.take(0, 0, -30);
        Check.due("give of an empty share", x.take(0, 0, -1), 0);
    }

    private static void promise5EightWait() {
        Check.promise(5, "(or 8 WAIT)");
        LentBounds x = Make.tens();
        x.patient(2, true);
        x.patient(3, true);
        for (int k = 0; k < 8; k++) {
            Check.due("the one with " + k + " before it", x.take(0, 2, 11 + k), 2);
        }
        Check.due("the ninth", x.take(0, 2, 11), 0);
        Check.due("the ninth, a give", x.take(0, 2, -21), 0);
        Check.due("how many", x.person(2, 2), 8);
        Check.due("the last one", x.waits(2, 7), 18);
        Check.due("one within the share", x.take(0, 2, 1), 1);
        Check.due("another one's", x.take(0, 3, 11), 2);
        x.lend(0, 0, 0, 2, 2);
        x.deliver(1);
        Check.due("one went", x.person(2, 2), 7);
        Check.due("there is a place again", x.take(0, 2, 50), 2);
        Check.due("and no more", x.take(0, 2, 50), 0);
    }

    private static void promise5NoBoundOrPerson() {
        Check.promise(5, "NONE if there is no such BOUND or PERSON");
        LentBounds x = Make.tens();
        x.patient(0, true);
        String before = State.of(x);
        for (int bound : Make.NO_BOUNDS) {
            Check.due("bound " + bound, x.take(bound, 0, 1), -1);
            Check.due("bound " + bound + ", too much", x.take(bound, 0, 11), -1);
        }
        for (int person : Make.NO_PEOPLE) {
            Check.due("person " + person, x.take(0, person, 1), -1);
            Check.due("person " + person + ", too much", x.take(0, person, 11), -1);
        }
        Check.dueSame("takes that are not", x, before);
    }

    private static void promise5Ended() {
        Check.promise(5, "it is ENDED");
        LentBounds x = Make.tens();
        x.patient(4, true);
        x.end(4);
        String before = State.of(x);
        Check.due("take", x.take(0, 4, 1), -1);
        Check.due("give", x.take(0, 4, -1), -1);
        Check.due("too much", x.take(0, 4, 11), -1);
        Check.dueSame("takes of an ended one", x, before);
        Make.vouchAll(x, 4);
        Check.due("a recovered one", x.take(0, 4, 11), -1);
    }

    private static void promise5Zero() {
        Check.promise(5, "v is 0");
        LentBounds x = Make.tens();
        x.patient(0, true);
        String before = State.of(x);
        Check.due("take 0", x.take(0, 0, 0), -1);
        Check.dueSame("take 0", x, before);
        Check.due("take 1", x.take(0, 0, 1), 1);
        Check.due("give 1", x.take(0, 0, -1), 1);
    }

    private static void promise5Beyond() {
        Check.promise(5, "or beyond 1000000000000");
        LentBounds x = Make.alone(-MOST, 0, MOST);
        x.take(0, 0, -MOST);
        x.patient(0, true);
        String before = State.of(x);
        long[] beyond = {
            MOST + 1, 2 * MOST, 1L << 62, Long.MAX_VALUE, -MOST - 1, -2 * MOST, -Long.MAX_VALUE, Long.MIN_VALUE,
        };
        for (long v : beyond) {
            Check.due("take " + v, x.take(0, 0, v), -1);
        }
        Check.dueSame("takes beyond", x, before);
        Check.due("the most, of 2 * the most", x.take(0, 0, MOST), 1);
    }

    private static void promise18Bounds() {
        Check.promise(18, "What 0: BOUNDS");
        LentBounds x = new LentBounds();
        for (int bound = 0; bound < 6; bound++) {
            Check.due("total(0)", x.total(0), bound);
            x.bound(0, 1, 2);
        }
        Check.due("total(0)", x.total(0), 6);
        Check.dueThrow("a seventh", IllegalStateException.class, () -> x.bound(0, 1, 2));
        Check.due("total(0)", x.total(0), 6);
    }

    private static void promise18Rows() {
        Check.promise(18, "1: ROWS");
        LentBounds x = Make.tens();
        Check.due("none", x.total(1), 0);
        x.lend(0, 0, 1, 0, 1);
        x.ask(0, 1, 3, 1);
        x.lend(0, 0, 1, 0, 11);
        x.lend(0, 0, 1, 1, 1);
        Check.due("two", x.total(1), 2);
        x.deliver(1);
        x.lose(2);
        Check.due("delivered and lost ones", x.total(1), 2);
    }

    private static void promise18Done() {
        Check.promise(18, "2: TAKES and GIVES that were done");
        LentBounds x = Make.tens();
        x.take(0, 0, 1);
        Check.due("a take", x.total(2), 1);
        x.take(0, 0, -1);
        Check.due("a give", x.total(2), 2);
        x.take(0, 0, 11);
        x.take(0, 0, 0);
        x.patient(0, true);
        x.take(0, 0, 11);
        Check.due("not a refused one, a wrong one, one that waits", x.total(2), 2);
        x.lend(0, 0, 1, 0, 1);
        x.deliver(1);
        Check.due("one that waited", x.total(2), 3);
    }

    private static void promise18Refused() {
        Check.promise(18, "3: refused ones");
        LentBounds x = Make.tens();
        x.take(0, 0, 11);
        x.take(0, 0, -21);
        Check.due("two", x.total(3), 2);
        x.take(0, 0, 0);
        x.take(0, 0, MOST + 1);
        x.take(1, 0, 11);
        x.take(0, 6, 11);
        x.take(0, 0, 1);
        x.lend(0, 0, 0, 1, 100);
        Check.due("not wrong ones, and not lend()", x.total(3), 2);
        x.patient(0, true);
        for (int k = 0; k < 8; k++) {
            x.take(0, 0, 11);
        }
        Check.due("not those that wait", x.total(3), 2);
        x.take(0, 0, 11);
        Check.due("the ninth", x.total(3), 3);
        x.end(0);
        Check.due("not what is gone", x.total(3), 3);
        x.take(0, 0, 11);
        Check.due("not an ended one's", x.total(3), 3);
    }

    private static void promise18AnotherWhat() {
        Check.promise(18, "NONE for another what");
        LentBounds x = Make.tens();
        for (int what : new int[] {-1, 4, 5, Integer.MIN_VALUE, Integer.MAX_VALUE}) {
            Check.due("total(" + what + ")", x.total(what), -1);
        }
    }
}
