import java.util.NoSuchElementException;

/** Promises 1 (a new object), 2 (weigh), 3 (bound), 12 (share), 13 (sum). */
public final class BoundsTest {
    private static final long MOST = 1000000000000L;

    public static void main(String[] args) {
        promise1NewObject();
        promise2Weigh();
        promise2WeightsStay();
        promise3SplitsByWeights();
        promise3SplitsGreatRooms();
        promise3Edges();
        promise3Refuses();
        promise3OrderOfExceptions();
        promise3LeavesOutEndedOnes();
        promise12Share();
        promise13Sum();
        Check.finish();
    }

    private static LentBounds weighed(long... weights) {
        LentBounds x = new LentBounds();
        for (int person = 0; person < weights.length; person++) {
            Check.due("weigh(" + person + ", " + weights[person] + ")", x.weigh(person, weights[person]), true);
        }
        return x;
    }

    private static void promise1NewObject() {
        LentBounds x = new LentBounds();
        for (int what = 0; what < 4; what++) {
            Check.due("new total(" + what + ")", x.total(what), 0);
            for (int person = 0; person < 6; person++) {
                Check.due("new person(" + person + ", " + what + ")", x.person(person, what), 0);
            }
        }
        Check.dueThrow("new waits", NoSuchElementException.class, () -> x.waits(0, 0));
        Check.dueThrow("new share", NoSuchElementException.class, () -> x.share(0, 0, 0));
        Check.dueThrow("new sum", NoSuchElementException.class, () -> x.sum(0, 0));
        Check.dueThrow("new lent", NoSuchElementException.class, () -> x.lent(1));
        Check.due("new row", x.row(1, 0), -1);
        Check.due("new deliver", x.deliver(1), -1);
        x.bound(0, 12, 18);
        Check.dueShares(x, 0, 0, 2, 2, 2, 2, 2, 2);
        Check.dueShares(x, 0, 1, 1, 1, 1, 1, 1, 1);
    }

    private static void promise2Weigh() {
        LentBounds x = new LentBounds();
        Check.due("weigh 0", x.weigh(0, 0), true);
        Check.due("weigh the same again", x.weigh(0, 0), true);
        Check.due("weigh the greatest", x.weigh(1, 1000000), true);
        Check.due("weigh too great", x.weigh(2, 1000001), false);
        Check.due("weigh below 0", x.weigh(2, -1), false);
        Check.due("weigh least long", x.weigh(2, Long.MIN_VALUE), false);
        Check.due("weigh 2^32", x.weigh(2, 1L << 32), false);
        Check.due("weigh person -1", x.weigh(-1, 1), false);
        Check.due("weigh person 6", x.weigh(6, 1), false);
        Check.due("weigh least person", x.weigh(Integer.MIN_VALUE, 1), false);
        for (int person = 3; person < 6; person++) {
            x.weigh(person, 0);
        }
        x.bound(0, 1000001, 1000001);
        Check.dueShares(x, 0, 0, 0, 1000000, 1, 0, 0, 0);
        x.end(2);
        Check.due("weigh an ended one", x.weigh(2, 1), false);
    }

    private static void promise2WeightsStay() {
        LentBounds x = weighed(3, 2, 1, 0, 0, 0);
        x.bound(0, 6, 6);
        x.bound(0, 12, 12);
        Check.dueShares(x, 1, 0, 6, 4, 2, 0, 0, 0);
        x.weigh(0, 0);
        x.bound(0, 3, 3);
        Check.dueShares(x, 2, 0, 0, 2, 1, 0, 0, 0);
        Check.dueShares(x, 0, 0, 3, 2, 1, 0, 0, 0);
    }

    private static void promise3SplitsByWeights() {
        LentBounds x = weighed(3, 2, 1, 0, 0, 0);
        Check.due("first bound", x.bound(0, 10, 21), 0);
        Check.dueShares(x, 0, 0, 5, 3, 2, 0, 0, 0);
        Check.dueShares(x, 0, 1, 5, 4, 2, 0, 0, 0);
        LentBounds even = new LentBounds();
        Check.due("bound", even.bound(-7, 1, 2), 0);
        Check.dueShares(even, 0, 0, 2, 2, 1, 1, 1, 1);
        Check.dueShares(even, 0, 1, 1, 0, 0, 0, 0, 0);
        LentBounds late = weighed(1, 1, 5, 0, 3, 3);
        late.bound(0, 7, 11);
        // 7 * (1 1 5 0 3 3) / 13: 0 r7, 0 r7, 2 r9, 0, 1 r8, 1 r8; three are left over
        Check.dueShares(late, 0, 0, 0, 0, 3, 0, 2, 2);
        // 4 * (1 1 5 0 3 3) / 13: 0 r4, 0 r4, 1 r7, 0, 0 r12, 0 r12; three are left over
        Check.dueShares(late, 0, 1, 0, 0, 2, 0, 1, 1);
    }

    private static void promise3SplitsGreatRooms() {
        LentBounds x = weighed(1000000, 1000000, 1000000, 1000000, 1000000, 1000000);
        x.bound(0, MOST, 2 * MOST);
        long sixth = 166666666666L;
        Check.dueShares(x, 0, 0, sixth + 1, sixth + 1, sixth + 1, sixth + 1, sixth, sixth);
        Check.dueShares(x, 0, 1, sixth + 1, sixth + 1, sixth + 1, sixth + 1, sixth, sixth);
        LentBounds one = weighed(0, 0, 0, 0, 0, 1000000);
        one.bound(-MOST, 0, MOST);
        Check.dueShares(one, 0, 0, 0, 0, 0, 0, 0, MOST);
        LentBounds two = weighed(999999, 0, 0, 0, 0, 1000000);
        two.bound(0, MOST, MOST);
        // 10^12 * 999999 / 1999999 = 499999749999 rest 1749999, and of the other one 500000250000 rest 250000
        Check.dueShares(two, 0, 0, 499999750000L, 0, 0, 0, 0, 500000250000L);
    }

    private static void promise3Edges() {
        LentBounds x = new LentBounds();
        Check.due("no room", x.bound(0, 0, 0), 0);
        Check.due("at the least long", x.bound(Long.MIN_VALUE, Long.MIN_VALUE, Long.MIN_VALUE + MOST), 1);
        Check.due("at the greatest long", x.bound(Long.MAX_VALUE - MOST, Long.MAX_VALUE, Long.MAX_VALUE), 2);
        Check.due("both greatest", x.bound(-MOST, 0, MOST), 3);
        Check.due("fifth", x.bound(1, 2, 3), 4);
        Check.due("sixth", x.bound(1, 2, 3), 5);
        Check.dueThrow("seventh", IllegalStateException.class, () -> x.bound(1, 2, 3));
        Check.due("total(0)", x.total(0), 6);
        Check.due("value", x.sum(2, 0), Long.MAX_VALUE);
        Check.due("floor", x.sum(1, 1), Long.MIN_VALUE);
        Check.dueSums(x, 2, MOST, 0, 0, 0, 0, 0);
    }

    private static void promise3Refuses() {
        LentBounds x = new LentBounds();
        Class<IllegalArgumentException> wrong = IllegalArgumentException.class;
        Check.dueThrow("floor above value", wrong, () -> x.bound(5, 4, 9));
        Check.dueThrow("value above ceiling", wrong, () -> x.bound(5, 9, 8));
        Check.dueThrow("floor above ceiling", wrong, () -> x.bound(5, 5, 4));
        Check.dueThrow("too far down", wrong, () -> x.bound(-1, MOST, MOST));
        Check.dueThrow("too far up", wrong, () -> x.bound(0, 0, MOST + 1));
        Check.dueThrow("beyond a long, down", wrong, () -> x.bound(Long.MIN_VALUE, Long.MAX_VALUE, Long.MAX_VALUE));
        Check.dueThrow("beyond a long, up", wrong, () -> x.bound(Long.MIN_VALUE, Long.MIN_VALUE, Long.MAX_VALUE));
        Check.dueThrow("2^63 down", wrong, () -> x.bound(Long.MIN_VALUE, 0, 0));
        Check.dueThrow("2^63 up", wrong, () -> x.bound(-1, -1, Long.MAX_VALUE));
        Check.dueThrow("order beyond a long", wrong, () -> x.bound(Long.MAX_VALUE, Long.MIN_VALUE, Long.MIN_VALUE));
        Check.due("total(0)", x.total(0), 0);
    }

    private static void promise3OrderOfExceptions() {
        LentBounds x = weighed(0, 0, 0, 0, 0, 0);
        Check.dueThrow("order before weights", IllegalArgumentException.class, () -> x.bound(1, 0, 0));
        Check.dueThrow("all weights 0", ArithmeticException.class, () -> x.bound(0, 0, 0));
        x.weigh(2, 1);
        for (int bound = 0; bound < 6; bound++) {
            Check.due("bound", x.bound(0, 3, 4), bound);
        }
        Check.dueThrow("order before number", IllegalArgumentException.class, () -> x.bound(1, 0, 0));
        Check.dueThrow("there are six", IllegalStateException.class, () -> x.bound(0, 0, 0));
        x.weigh(2, 0);
        Check.dueThrow("weights before number", ArithmeticException.class, () -> x.bound(0, 0, 0));
        Check.due("total(0)", x.total(0), 6);
    }

    private static void promise3LeavesOutEndedOnes() {
        LentBounds x = weighed(7, 0, 0, 0, 0, 1);
        x.end(0);
        x.bound(0, 8, 16);
        Check.dueShares(x, 0, 0, 0, 0, 0, 0, 0, 8);
        x.end(5);
        Check.dueThrow("weights of ended ones alone", ArithmeticException.class, () -> x.bound(0, 0, 0));
        for (int person = 1; person < 5; person++) {
            x.end(person);
        }
        Check.dueThrow("all ended", ArithmeticException.class, () -> x.bound(0, 0, 0));
    }

    private static void promise12Share() {
        LentBounds x = new LentBounds();
        x.bound(0, 6, 18);
        Class<NoSuchElementException> none = NoSuchElementException.class;
        Check.dueShares(x, 0, 0, 1, 1, 1, 1, 1, 1);
        Check.dueShares(x, 0, 1, 2, 2, 2, 2, 2, 2);
        Check.dueThrow("share bound 1", none, () -> x.share(1, 0, 0));
        Check.dueThrow("share bound -1", none, () -> x.share(-1, 0, 0));
        Check.dueThrow("share bound 6", none, () -> x.share(6, 0, 0));
        Check.dueThrow("share side 2", none, () -> x.share(0, 2, 0));
        Check.dueThrow("share side -1", none, () -> x.share(0, -1, 0));
        Check.dueThrow("share person 6", none, () -> x.share(0, 0, 6));
        Check.dueThrow("share person -1", none, () -> x.share(0, 0, -1));
        Check.dueThrow("share greatest", none, () -> x.share(Integer.MAX_VALUE, 0, 0));
        x.end(3);
        Check.due("share of an ended one", x.share(0, 1, 3), 2);
    }

    private static void promise13Sum() {
        LentBounds x = weighed(1, 1, 0, 0, 0, 0);
        x.bound(-4, 6, 14);
        Check.due("value", x.sum(0, 0), 6);
        Check.due("floor", x.sum(0, 1), -4);
        Check.due("ceiling", x.sum(0, 2), 14);
        Check.dueSums(x, 0, 10, 8, 0, 0, 0, 0);
        x.lend(0, 0, 0, 1, 2);
        x.lend(0, 1, 0, 2, 3);
        Check.dueSums(x, 0, 8, 5, 2, 3, 0, 0);
        x.lose(1);
        Check.dueSums(x, 0, 8, 5, 0, 3, 2, 0);
        x.end(2);
        Check.dueSums(x, 0, 8, 5, 0, 0, 2, 3);
        x.deliver(2);
        Check.dueSums(x, 0, 8, 5, 0, 0, 2, 3);
        x.end(1);
        Check.dueSums(x, 0, 3, 1, 0, 0, 7, 7);
        x.take(0, 0, 3);
        Check.dueSums(x, 0, 0, 4, 0, 0, 7, 7);
        Check.due("value", x.sum(0, 0), 3);
        x.bound(0, 0, 5);
        Check.dueSums(x, 1, 0, 5, 0, 0, 0, 0);
        Class<NoSuchElementException> none = NoSuchElementException.class;
        Check.dueThrow("sum what 9", none, () -> x.sum(0, 9));
        Check.dueThrow("sum what -1", none, () -> x.sum(0, -1));
        Check.dueThrow("sum bound 2", none, () -> x.sum(2, 0));
        Check.dueThrow("sum bound -1", none, () -> x.sum(-1, 0));
    }
}
