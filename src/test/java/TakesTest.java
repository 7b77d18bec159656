import java.util.NoSuchElementException;

/** Promises 4 (patient), 5 (take), 16 (waits), 18 (total). */
public final class TakesTest {
    private static final long MOST = 1000000000000L;

    public static void main(String[] args) {
        promise4Patient();
        promise5TakesAndGives();
        promise5WrongOnes();
        promise5GreatOnes();
        promise5EightWait();
        promise5EightGoAtOnce();
        promise5OwnTakesDoNotWake();
        promise5FirstOneFirst();
        promise5AnyBoundWakes();
        promise5RecoveryWakes();
        promise5NothingWakesNobody();
        promise16Waits();
        promise18Total();
        Check.finish();
    }

    /** Room 60 down and 60 up: 10 of each for each person. */
    private static LentBounds tens() {
        LentBounds x = new LentBounds();
        x.bound(-60, 0, 60);
        return x;
    }

    private static void promise4Patient() {
        LentBounds x = tens();
        Check.due("patient off at first", x.patient(0, false), false);
        Check.due("patient on", x.patient(0, true), true);
        Check.due("patient on again", x.patient(0, true), false);
        Check.due("person(0, 1)", x.person(0, 1), 1);
        Check.due("person(1, 1)", x.person(1, 1), 0);
        Check.due("a take waits", x.take(0, 0, 11), 2);
        Check.due("patient off", x.patient(0, false), true);
        Check.due("patient off again", x.patient(0, false), false);
        Check.due("goes on waiting", x.person(0, 2), 1);
        Check.due("the next is refused", x.take(0, 0, 12), 0);
        x.lend(0, 0, 1, 0, 1);
        x.deliver(1);
        Check.due("what waited is done", x.sum(0, 0), -11);
        Check.due("patient person -1", x.patient(-1, true), false);
        Check.due("patient person 6", x.patient(6, true), false);
        x.end(0);
        Check.due("patient of an ended one", x.patient(0, true), false);
    }

    private static void promise5TakesAndGives() {
        LentBounds x = tens();
        Check.due("take all", x.take(0, 0, 10), 1);
        Check.dueShares(x, 0, 0, 0, 10);
        Check.dueShares(x, 0, 1, 20, 10);
        Check.due("value", x.sum(0, 0), -10);
        Check.due("take one more", x.take(0, 0, 1), 0);
        Check.due("give all", x.take(0, 0, -20), 1);
        Check.dueShares(x, 0, 0, 20, 10);
        Check.dueShares(x, 0, 1, 0, 10);
        Check.due("value", x.sum(0, 0), 10);
        Check.due("give one more", x.take(0, 0, -1), 0);
        Check.due("value", x.sum(0, 0), 10);
        Check.dueSums(x, 0, 70, 50, 0, 0, 0, 0);
        Check.due("floor", x.sum(0, 1), -60);
        Check.due("ceiling", x.sum(0, 2), 60);
    }

    private static void promise5WrongOnes() {
        LentBounds x = tens();
        Check.due("take 0", x.take(0, 0, 0), -1);
        Check.due("take too much", x.take(0, 0, MOST + 1), -1);
        Check.due("give too much", x.take(0, 0, -MOST - 1), -1);
        Check.due("take least long", x.take(0, 0, Long.MIN_VALUE), -1);
        Check.due("take greatest long", x.take(0, 0, Long.MAX_VALUE), -1);
        Check.due("take the most", x.take(0, 0, MOST), 0);
        Check.due("give the most", x.take(0, 0, -MOST), 0);
        Check.due("take 2^32 + 1", x.take(0, 0, (1L << 32) + 1), 0);
        Check.due("take bound 1", x.take(1, 0, 1), -1);
        Check.due("take bound -1", x.take(-1, 0, 1), -1);
        Check.due("take bound 6", x.take(6, 0, 1), -1);
        Check.due("take person -1", x.take(0, -1, 1), -1);
        Check.due("take person 6", x.take(0, 6, 1), -1);
        x.end(4);
        Check.due("take of an ended one", x.take(0, 4, 1), -1);
        Check.due("total(2)", x.total(2), 0);
        Check.due("total(3)", x.total(3), 3);
    }

    private static void promise5GreatOnes() {
        LentBounds x = new LentBounds();
        for (int person = 0; person < 5; person++) {
            x.weigh(person, 0);
        }
        x.bound(-MOST, 0, MOST);
        Check.due("give the most", x.take(0, 5, -MOST), 1);
        Check.dueShares(x, 0, 0, 0, 0, 0, 0, 0, 2 * MOST);
        Check.due("take the most", x.take(0, 5, MOST), 1);
        Check.due("take the most again", x.take(0, 5, MOST), 1);
        Check.dueShares(x, 0, 1, 0, 0, 0, 0, 0, 2 * MOST);
        Check.due("value", x.sum(0, 0), -MOST);
        x.end(5);
        for (int person = 0; person < 5; person++) {
            x.vouch(person, 5);
        }
        Check.dueShares(x, 0, 1, 400000000000L, 400000000000L, 400000000000L, 400000000000L, 400000000000L, 0);
    }

    private static void promise5EightWait() {
        LentBounds x = tens();
        x.patient(2, true);
        for (int k = 0; k < 8; k++) {
            Check.due("waits", x.take(0, 2, 11 + k), 2);
            Check.due("how many", x.person(2, 2), k + 1);
        }
        Check.due("the ninth", x.take(0, 2, 11), 0);
        Check.due("one within the share", x.take(0, 2, 3), 1);
        Check.due("how many", x.person(2, 2), 8);
        Check.due("total(3)", x.total(3), 1);
        Check.due("another one's", x.take(0, 3, 11), 0);
        for (int k = 0; k < 8; k++) {
            Check.due("waits(2, k)", x.waits(2, k), 11 + k);
        }
    }

    private static void promise5EightGoAtOnce() {
        LentBounds x = tens();
        x.patient(0, true);
        long[] vs = {11, -21, 21, -20, 19, -18, 17, -16};
        for (long v : vs) {
            Check.due("waits", x.take(0, 0, v), 2);
        }
        Check.due("how many", x.person(0, 2), 8);
        x.lend(0, 0, 5, 0, 1);
        x.deliver(1);
        Check.due("all went", x.person(0, 2), 0);
        Check.due("total(2)", x.total(2), 8);
        Check.due("value", x.sum(0, 0), 7);
        Check.dueShares(x, 0, 0, 18);
        Check.dueShares(x, 0, 1, 3);
    }

    private static void promise5OwnTakesDoNotWake() {
        LentBounds x = tens();
        x.patient(0, true);
        Check.due("a give waits", x.take(0, 0, -12), 2);
        Check.due("a take makes room", x.take(0, 0, 5), 1);
        Check.due("it waits still", x.person(0, 2), 1);
        x.lend(0, 0, 1, 2, 1);
        x.deliver(1);
        Check.due("what comes to another one", x.person(0, 2), 1);
        x.lend(0, 0, 1, 0, 1);
        Check.due("under way", x.person(0, 2), 1);
        x.deliver(2);
        Check.due("done when something comes", x.person(0, 2), 0);
        Check.due("value", x.sum(0, 0), 7);
        Check.dueShares(x, 0, 0, 18);
        Check.dueShares(x, 0, 1, 3);
    }

    private static void promise5FirstOneFirst() {
        LentBounds x = tens();
        x.patient(0, true);
        x.take(0, 0, 15);
        x.take(0, 0, -12);
        x.take(0, 0, 11);
        x.take(0, 0, 20);
        x.take(0, 0, -30);
        x.lend(0, 0, 1, 0, 4);
        x.deliver(1);
        Check.due("the first one can't yet", x.person(0, 2), 5);
        x.lend(0, 0, 2, 0, 1);
        x.deliver(2);
        // 15 goes (down 0, up 25), then -12 (12, 13), then 11 (1, 24); 20 stays, and -30 behind it
        Check.due("three went", x.person(0, 2), 2);
        Check.due("waits(0, 0)", x.waits(0, 0), 20);
        Check.due("waits(0, 1)", x.waits(0, 1), -30);
        Check.dueShares(x, 0, 0, 1);
        Check.dueShares(x, 0, 1, 24);
        Check.due("value", x.sum(0, 0), -14);
        Check.due("total(2)", x.total(2), 3);
        x.deliver(2);
        Check.due("a second time does nothing", x.person(0, 2), 2);
        x.lend(0, 1, 3, 0, 10);
        x.deliver(3);
        Check.due("20 holds up -30", x.person(0, 2), 2);
    }

    private static void promise5AnyBoundWakes() {
        LentBounds x = tens();
        x.bound(0, 6, 6);
        x.patient(0, true);
        x.take(0, 0, -11);
        x.take(1, 0, 2);
        x.take(0, 0, 1);
        x.bound(0, 6, 6);
        Check.due("a new bound wakes nobody", x.person(0, 2), 2);
        x.lend(1, 0, 1, 0, 1);
        x.deliver(1);
        Check.due("both went", x.person(0, 2), 0);
        Check.due("value of 0", x.sum(0, 0), 10);
        Check.due("value of 1", x.sum(1, 0), 4);
    }

    private static void promise5RecoveryWakes() {
        LentBounds x = tens();
        x.patient(1, true);
        x.take(0, 1, 12);
        x.take(0, 1, -24);
        x.take(0, 1, 26);
        x.end(0);
        for (int person = 1; person < 6; person++) {
            x.vouch(person, 0);
        }
        // 2 down and 2 up come to each: 12 goes (0, 24), -24 goes (24, 0), 26 stays
        Check.due("waits(1, 0)", x.waits(1, 0), 26);
        Check.due("how many", x.person(1, 2), 1);
        Check.dueShares(x, 0, 0, 0, 24, 12, 12, 12, 12);
        Check.dueShares(x, 0, 1, 0, 0, 12, 12, 12, 12);
        Check.due("value", x.sum(0, 0), 12);
        Check.due("total(2)", x.total(2), 2);
    }

    private static void promise5NothingWakesNobody() {
        LentBounds x = new LentBounds();
        x.weigh(0, 0);
        x.bound(-50, 0, 50);
        x.patient(1, true);
        x.take(0, 1, -11);
        x.take(0, 1, 1);
        x.end(0);
        for (int person = 1; person < 6; person++) {
            x.vouch(person, 0);
        }
        Check.due("recovered", x.person(0, 0), 2);
        Check.due("nothing came by it", x.person(1, 2), 1);
    }

    private static void promise16Waits() {
        LentBounds x = tens();
        Class<NoSuchElementException> none = NoSuchElementException.class;
        x.patient(1, true);
        x.take(0, 1, 100);
        x.take(0, 1, -200);
        Check.due("waits(1, 0)", x.waits(1, 0), 100);
        Check.due("waits(1, 1)", x.waits(1, 1), -200);
        Check.dueThrow("waits(1, 2)", none, () -> x.waits(1, 2));
        Check.dueThrow("waits(1, -1)", none, () -> x.waits(1, -1));
        Check.dueThrow("waits(1, 8)", none, () -> x.waits(1, 8));
        Check.dueThrow("waits(0, 0)", none, () -> x.waits(0, 0));
        Check.dueThrow("waits(-1, 0)", none, () -> x.waits(-1, 0));
        Check.dueThrow("waits(6, 0)", none, () -> x.waits(6, 0));
        x.end(1);
        Check.dueThrow("waits of an ended one", none, () -> x.waits(1, 0));
        Check.due("person(1, 2)", x.person(1, 2), 0);
    }

    private static void promise18Total() {
        LentBounds x = tens();
        x.bound(0, 0, 0);
        x.take(0, 0, 1);
        x.take(0, 0, -1);
        x.take(0, 0, 11);
        x.take(0, 0, 0);
        x.patient(0, true);
        x.take(0, 0, 11);
        x.lend(0, 0, 1, 0, 1);
        x.ask(0, 1, 3, 1);
        x.lend(0, 0, 1, 0, 11);
        Check.due("total(0)", x.total(0), 2);
        Check.due("total(1)", x.total(1), 2);
        Check.due("total(2)", x.total(2), 2);
        Check.due("total(3)", x.total(3), 1);
        x.deliver(1);
        Check.due("total(2) with one that waited", x.total(2), 3);
        x.take(0, 0, 50);
        x.end(0);
        Check.due("what is gone is not refused", x.total(3), 1);
        Check.due("total(-1)", x.total(-1), -1);
        Check.due("total(4)", x.total(4), -1);
        Check.due("total(least)", x.total(Integer.MIN_VALUE), -1);
    }
}
