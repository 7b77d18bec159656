/** Of the terms the split; promise 2 (weigh). */
public final class SplitTest {
    private static final long MOST = Make.MOST;

    public static void main(String[] args) {
        all();
        Check.finish();
    }

    static void all() {
        termsWeights();
        termsOnePerPerson();
        termsRoundedDown();
        termsGreatRooms();
        termsGreatestRest();
        termsFirstOfSeveral();
        termsAtMostOne();
        promise2NextBound();
        promise2OneAtFirst();
        promise2NoneSuch();
        promise2Ended();
        promise2AnotherWeight();
    }

    private static LentBounds bound(LentBounds x, long down, long up) {
        x.bound(-down, 0, up);
        return x;
    }

    private static void termsWeights() {
        Check.terms("SPLIT by weights (longs 0 .. 1000000");
        LentBounds x = Make.weighed(0, 1000000, 1, 0, 0, 0);
        bound(x, 1000001, 2000002);
        Check.dueShares(x, 0, 0, 0, 1000000, 1, 0, 0, 0);
        Check.dueShares(x, 0, 1, 0, 2000000, 2, 0, 0, 0);
        Check.due("one more than the greatest", x.weigh(2, 1000001), false);
        Check.due("one less than the least", x.weigh(2, -1), false);
        bound(x, 1000001, 0);
        Check.dueShares(x, 1, 0, 0, 1000000, 1, 0, 0, 0);
    }

    private static void termsOnePerPerson() {
        Check.terms("one for each PERSON that is not ENDED, of others 0)");
        LentBounds x = Make.weighed(7, 0, 0, 2, 0, 1);
        x.end(0);
        bound(x, 9, 5);
        Check.dueShares(x, 0, 0, 0, 0, 0, 6, 0, 3);
        // 5 * 2 / 3 is 3 rest 1, 5 * 1 / 3 is 1 rest 2
        Check.dueShares(x, 0, 1, 0, 0, 0, 3, 0, 2);
        Make.vouchAll(x, 0);
        Check.due("recovered", x.person(0, 0), 2);
        bound(x, 9, 5);
        Check.dueShares(x, 1, 0, 0, 0, 0, 6, 0, 3);
    }

    private static void termsRoundedDown() {
        Check.terms("of a room R and the sum W of weights PERSON p gets R * weight / W, rounded down");
        LentBounds even = bound(Make.weighed(1, 2, 3, 4, 5, 6), 42, 21);
        Check.dueShares(even, 0, 0, 2, 4, 6, 8, 10, 12);
        Check.dueShares(even, 0, 1, 1, 2, 3, 4, 5, 6);
        LentBounds none = bound(Make.weighed(1, 2, 3, 4, 5, 6), 0, 0);
        Check.dueShares(none, 0, 0, 0, 0, 0, 0, 0, 0);
        Check.dueShares(none, 0, 1, 0, 0, 0, 0, 0, 0);
        // 11 * 3 / 7 is 4 rest 5, 11 * 4 / 7 is 6 rest 2
        LentBounds odd = bound(Make.weighed(3, 4, 0, 0, 0, 0), 11, 1);
        Check.dueShares(odd, 0, 0, 5, 6, 0, 0, 0, 0);
        Check.dueShares(odd, 0, 1, 0, 1, 0, 0, 0, 0);
    }

    private static void termsGreatRooms() {
        Check.terms("of a room R and the sum W of weights PERSON p gets R * weight / W, rounded down");
        LentBounds all = bound(Make.weighed(1000000, 1000000, 1000000, 1000000, 1000000, 1000000), MOST, MOST - 1);
        long sixth = 166666666666L;
        Check.dueShares(all, 0, 0, sixth + 1, sixth + 1, sixth + 1, sixth + 1, sixth, sixth);
        Check.dueShares(all, 0, 1, sixth + 1, sixth + 1, sixth + 1, sixth, sixth, sixth);
        LentBounds one = bound(Make.weighed(0, 0, 0, 0, 0, 1000000), MOST, MOST);
        Check.dueShares(one, 0, 0, 0, 0, 0, 0, 0, MOST);
        // 10^12 * 999999 / 1999999 is 499999749999 rest 1749999, and the other one's 500000250000 rest 250000
        LentBounds two = bound(Make.weighed(999999, 0, 0, 0, 0, 1000000), MOST, 0);
        Check.dueShares(two, 0, 0, 499999750000L, 0, 0, 0, 0, 500000250000L);
    }

    private static void termsGreatestRest() {
        Check.terms("what is left over goes, one by one, to PEOPLE by the greatest rest of that division");
        // 7 * (1 1 5 0 3 3) / 13: 0 r7, 0 r7, 2 r9, 0, 1 r8, 1 r8; three are left over
        LentBounds x = bound(Make.weighed(1, 1, 5, 0, 3, 3), 7, 4);
        Check.dueShares(x, 0, 0, 0, 0, 3, 0, 2, 2);
        // 4 * (1 1 5 0 3 3) / 13: 0 r4, 0 r4, 1 r7, 0, 0 r12, 0 r12; three are left over
        Check.dueShares(x, 0, 1, 0, 0, 2, 0, 1, 1);
        // 10 * (3 2 1) / 6: 5 r0, 3 r2, 1 r4; one is left over
        LentBounds last = bound(Make.weighed(3, 2, 1, 0, 0, 0), 10, 1);
        Check.dueShares(last, 0, 0, 5, 3, 2, 0, 0, 0);
        Check.dueShares(last, 0, 1, 1, 0, 0, 0, 0, 0);
    }

    private static void termsFirstOfSeveral() {
        Check.terms("of several the first");
        LentBounds x = bound(new LentBounds(), 8, 1);
        Check.dueShares(x, 0, 0, 2, 2, 1, 1, 1, 1);
        Check.dueShares(x, 0, 1, 1, 0, 0, 0, 0, 0);
        LentBounds late = bound(Make.weighed(0, 0, 2, 0, 2, 2), 7, 2);
        Check.dueShares(late, 0, 0, 0, 0, 3, 0, 2, 2);
        Check.dueShares(late, 0, 1, 0, 0, 1, 0, 1, 0);
    }

    private static void termsAtMostOne() {
        Check.terms("(each gets at most one)");
        LentBounds x = bound(new LentBounds(), 5, 11);
        Check.dueShares(x, 0, 0, 1, 1, 1, 1, 1, 0);
        Check.dueShares(x, 0, 1, 2, 2, 2, 2, 2, 1);
        // 3 * (9 4 4) / 17: 1 r10, 0 r12, 0 r12; two are left over
        LentBounds two = bound(Make.weighed(9, 4, 4, 0, 0, 0), 3, 2);
        Check.dueShares(two, 0, 0, 1, 1, 1, 0, 0, 0);
        // 2 * (9 4 4) / 17: 1 r1, 0 r8, 0 r8; one is left over
        Check.dueShares(two, 0, 1, 1, 1, 0, 0, 0, 0);
        // 3 * (20 1 1) / 22: 2 r16, 0 r3, 0 r3; one is left over. 21: 19 r2, 0 r21, 0 r21: two
        LentBounds much = bound(Make.weighed(20, 1, 1, 0, 0, 0), 3, 21);
        Check.dueShares(much, 0, 0, 3, 0, 0, 0, 0, 0);
        Check.dueShares(much, 0, 1, 19, 1, 1, 0, 0, 0);
    }

    private static void promise2NextBound() {
        Check.promise(2, "The weight of a PERSON for the next bound() becomes this (1 of each at first): true");
        LentBounds x = new LentBounds();
        Check.due("weigh(0, 3)", x.weigh(0, 3), true);
        Check.due("weigh(0, 3) again", x.weigh(0, 3), true);
        bound(x, 8, 0);
        Check.due("weigh(0, 0)", x.weigh(0, 0), true);
        Check.dueShares(x, 0, 0, 3, 1, 1, 1, 1, 1);
        bound(x, 10, 0);
        Check.dueShares(x, 1, 0, 0, 2, 2, 2, 2, 2);
        Check.due("weigh(0, 9)", x.weigh(0, 9), true);
        Check.due("weigh(0, 5) instead", x.weigh(0, 5), true);
        bound(x, 20, 0);
        Check.dueShares(x, 2, 0, 10, 2, 2, 2, 2, 2);
        bound(x, 10, 0);
        Check.dueShares(x, 3, 0, 5, 1, 1, 1, 1, 1);
        Check.dueShares(x, 0, 0, 3, 1, 1, 1, 1, 1);
    }

    private static void promise2OneAtFirst() {
        Check.promise(2, "(1 of each at first)");
        LentBounds x = bound(new LentBounds(), 6, 12);
        Check.dueShares(x, 0, 0, 1, 1, 1, 1, 1, 1);
        Check.dueShares(x, 0, 1, 2, 2, 2, 2, 2, 2);
        x.weigh(5, 2);
        bound(x, 7, 0);
        Check.dueShares(x, 1, 0, 1, 1, 1, 1, 1, 2);
    }

    private static void promise2NoneSuch() {
        Check.promise(2, "false if there is none such");
        LentBounds x = new LentBounds();
        for (int person : Make.NO_PEOPLE) {
            Check.due("weigh(" + person + ", 5)", x.weigh(person, 5), false);
        }
        bound(x, 6, 0);
        Check.dueShares(x, 0, 0, 1, 1, 1, 1, 1, 1);
        Check.due("the first one", x.weigh(0, 5), true);
        Check.due("the last one", x.weigh(5, 5), true);
    }

    private static void promise2Ended() {
        Check.promise(2, "it is ENDED");
        LentBounds x = new LentBounds();
        x.end(2);
        Check.due("an ended one", x.weigh(2, 5), false);
        Make.vouchAll(x, 2);
        Check.due("a recovered one", x.weigh(2, 5), false);
        bound(x, 5, 0);
        Check.dueShares(x, 0, 0, 1, 1, 0, 1, 1, 1);
    }

    private static void promise2AnotherWeight() {
        Check.promise(2, "or another weight");
        LentBounds x = new LentBounds();
        long[] others = {-1, 1000001, -1000000, 1L << 32, (1L << 32) + 7, Long.MIN_VALUE, Long.MAX_VALUE};
        for (long weight : others) {
            Check.due("weigh(0, " + weight + ")", x.weigh(0, weight), false);
        }
        bound(x, 6, 0);
        Check.dueShares(x, 0, 0, 1, 1, 1, 1, 1, 1);
        Check.due("the greatest", x.weigh(0, 1000000), true);
        Check.due("the least", x.weigh(0, 0), true);
    }
}
