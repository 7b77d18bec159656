/** Of the terms how what is stuck comes back; promise 11 (vouch). */
public final class RecoveryTest {
    public static void main(String[] args) {
        all();
        Check.finish();
    }

    static void all() {
        termsEachOtherHasTold();
        termsThereIsOne();
        termsLastOneIsEnded();
        termsOneThatToldIsEnded();
        termsFirstOfSeveral();
        termsAllShares();
        termsRows();
        termsLostRows();
        termsRowsAreLostThen();
        termsNothingIsStuckByThem();
        termsEqualWeights();
        termsToThoseNotEnded();
        termsSideBySide();
        termsSixBounds();
        promise11Recovered();
        promise11OnlyOneLeft();
        promise11OthersHaveNot();
        promise11ToldBefore();
        promise11RecoveredBefore();
        promise11NoSuchOnes();
        promise11NobodyButEnded();
    }

    private static void termsEachOtherHasTold() {
        Check.terms("RECOVERED they can be, when each other PERSON that is not ENDED has told so (by vouch())");
        LentBounds x = Make.tens();
        Make.endAll(x, 2, 4);
        x.vouch(0, 2);
        x.vouch(1, 2);
        x.vouch(3, 4);
        x.vouch(5, 4);
        Check.due("not yet", x.person(2, 0), 1);
        x.vouch(3, 2);
        Check.due("one has not", x.person(2, 0), 1);
        Check.dueSums(x, 0, 40, 80, 0, 0, 20, 40);
        x.vouch(5, 2);
        Check.due("all have but the other ended one", x.person(2, 0), 2);
        Check.due("of 4 others have told", x.person(4, 0), 1);
        Check.dueSums(x, 0, 50, 100, 0, 0, 10, 20);
    }

    private static void termsThereIsOne() {
        Check.terms("and there is one");
        LentBounds x = Make.tens();
        Make.endAll(x, 0, 1, 2, 3, 4);
        x.end(5);
        for (int person = 0; person < 6; person++) {
            Check.due("person(" + person + ", 0)", x.person(person, 0), 1);
        }
        Check.dueSums(x, 0, 0, 0, 0, 0, 60, 120);
        LentBounds told = Make.tens();
        told.end(0);
        for (int person = 1; person < 5; person++) {
            told.vouch(person, 0);
        }
        Make.endAll(told, 1, 2, 3, 4);
        Check.due("the one that is left has not told", told.person(0, 0), 1);
        told.end(5);
        Check.due("nobody is left", told.person(0, 0), 1);
        Check.dueSums(told, 0, 0, 0, 0, 0, 60, 120);
    }

    private static void termsLastOneIsEnded() {
        Check.terms("also when the last one that had not is ENDED itself");
        LentBounds x = Make.tens();
        x.end(2);
        for (int person : new int[] {0, 1, 3, 4}) {
            Check.due("vouch", x.vouch(person, 2), 1);
        }
        Check.due("end the last one that had not", x.end(5), true);
        Check.due("person(2, 0)", x.person(2, 0), 2);
        Check.due("person(5, 0)", x.person(5, 0), 1);
        Check.due("person(2, 3)", x.person(2, 3), 4);
        Check.dueShares(x, 0, 0, 13, 13, 0, 12, 12, 10);
        Check.dueShares(x, 0, 1, 25, 25, 0, 25, 25, 20);
        Check.dueSums(x, 0, 50, 100, 0, 0, 10, 20);
        LentBounds first = Make.tens();
        first.end(0);
        Make.vouchAll(first, 1);
        for (int person = 1; person < 5; person++) {
            first.vouch(person, 0);
        }
        first.end(5);
        Check.due("of the first person", first.person(0, 0), 2);
    }

    private static void termsOneThatToldIsEnded() {
        Check.terms("also when the last one that had not is ENDED itself");
        LentBounds x = Make.tens();
        x.end(2);
        for (int person : new int[] {0, 1, 3}) {
            x.vouch(person, 2);
        }
        x.end(0);
        Check.due("one that had told", x.person(2, 0), 1);
        x.end(4);
        Check.due("not the last one that had not", x.person(2, 0), 1);
        x.end(5);
        Check.due("the last one", x.person(2, 0), 2);
        Check.dueShares(x, 0, 0, 10, 15, 0, 15, 10, 10);
    }

    private static void termsFirstOfSeveral() {
        Check.terms("(the first of several that are RECOVERED by that, then the next one)");
        LentBounds x = Make.tens();
        // 4 is ended before 1, but 1 is the first of them: it brings back what is on its way between them
        x.lend(0, 0, 4, 1, 1);
        Make.endAll(x, 4, 1);
        for (int person : new int[] {0, 2, 3}) {
            x.vouch(person, 4);
            x.vouch(person, 1);
        }
        Check.due("neither yet", x.person(1, 0) + x.person(4, 0), 2);
        x.end(5);
        Check.due("person(1, 0)", x.person(1, 0), 2);
        Check.due("person(4, 0)", x.person(4, 0), 2);
        // by 1: 10 + 1 = 11, so 4, 4, 3; by 4: 9, 3 to each; the other way round it were 4, 3, 3 twice
        Check.dueShares(x, 0, 0, 17, 0, 17, 16, 0, 10);
        Check.dueSums(x, 0, 50, 100, 0, 0, 10, 20);
    }

    private static void termsAllShares() {
        Check.terms("then all its SHARES of each BOUND");
        LentBounds x = Make.tens();
        x.bound(0, 30, 60);
        x.take(0, 0, 5);
        x.end(0);
        Make.vouchAll(x, 0);
        Check.dueShares(x, 0, 0, 0, 11, 11, 11, 11, 11);
        Check.dueShares(x, 0, 1, 0, 25, 25, 25, 25, 25);
        Check.dueShares(x, 1, 0, 0, 6, 6, 6, 6, 6);
        Check.dueShares(x, 1, 1, 0, 6, 6, 6, 6, 6);
        Check.due("value", x.sum(0, 0), 55);
        LentBounds great = Make.alone(-Make.MOST, 0, Make.MOST);
        great.take(0, 0, Make.MOST);
        great.end(0);
        Make.vouchAll(great, 0);
        long fifth = 400000000000L;
        Check.dueShares(great, 0, 0, 0, 0, 0, 0, 0, 0);
        Check.dueShares(great, 0, 1, 0, fifth, fifth, fifth, fifth, fifth);
    }

    private static void termsRows() {
        Check.terms("and what ROWS hold that it LENT, or that were LENT to it, "
                + "and that are not DELIVERED (under way or LOST");
        LentBounds x = Make.tens();
        x.lend(0, 0, 0, 1, 3);
        x.lend(0, 0, 1, 0, 4);
        x.lend(0, 0, 4, 0, 6);
        x.lend(0, 0, 0, 5, 2);
        x.lend(0, 0, 3, 2, 5);
        x.deliver(3);
        x.deliver(4);
        x.end(0);
        Check.dueSums(x, 0, 37, 100, 8, 0, 15, 20);
        Make.vouchAll(x, 0);
        // 11 of its own, and 3 and 4 under way: 18, so 4, 4, 4, 3, 3
        Check.dueShares(x, 0, 0, 0, 10, 14, 9, 7, 15);
        Check.dueSums(x, 0, 55, 120, 5, 0, 0, 0);
    }

    private static void termsLostRows() {
        Check.terms("and that are not DELIVERED (under way or LOST");
        LentBounds x = Make.tens();
        x.lend(0, 0, 0, 2, 2);
        x.lend(0, 0, 3, 0, 1);
        x.lend(0, 0, 3, 2, 5);
        x.lose(1);
        x.lose(2);
        x.lose(3);
        x.end(0);
        Check.dueSums(x, 0, 44, 100, 0, 0, 16, 20);
        Make.vouchAll(x, 0);
        // 8 of its own, 2 and 1 lost: 11, so 3, 2, 2, 2, 2; what 3 lost to 2 is stuck still
        Check.dueShares(x, 0, 0, 0, 13, 12, 6, 12, 12);
        Check.dueSums(x, 0, 55, 120, 0, 0, 5, 0);
    }

    private static void termsRowsAreLostThen() {
        Check.terms("they are LOST then");
        LentBounds x = Make.tens();
        x.lend(0, 0, 0, 1, 3);
        x.lend(0, 1, 1, 0, 4);
        x.lend(0, 0, 2, 3, 5);
        x.lend(0, 0, 4, 0, 6);
        x.deliver(4);
        x.end(0);
        Check.due("under way still", x.row(1, 4), 0);
        Make.vouchAll(x, 0);
        int[] states = {2, 2, 0, 1};
        for (int row = 1; row <= 4; row++) {
            Check.due("row(" + row + ", 4)", x.row(row, 4), states[row - 1]);
        }
        Check.due("deliver(1)", x.deliver(1), -1);
        Check.due("deliver(2)", x.deliver(2), -1);
        Check.due("lose(1)", x.lose(1), false);
        Check.due("the others' row", x.deliver(3), 1);
    }

    private static void termsNothingIsStuckByThem() {
        Check.terms("and nothing is STUCK by them any more)");
        LentBounds x = Make.tens();
        x.lend(0, 0, 0, 1, 3);
        x.lend(0, 1, 1, 0, 4);
        x.lose(2);
        Make.endAll(x, 0, 1);
        Make.vouchAll(x, 1);
        // 10 and the row's 3: 4, 3, 3, 3; what was on its way comes back once
        Check.dueShares(x, 0, 0, 7, 0, 14, 13, 13, 13);
        Check.dueSums(x, 0, 53, 100, 0, 0, 7, 20);
        Make.vouchAll(x, 0);
        Check.dueShares(x, 0, 0, 0, 0, 16, 15, 15, 14);
        Check.dueSums(x, 0, 60, 120, 0, 0, 0, 0);
    }

    private static void termsEqualWeights() {
        Check.terms("comes to those who are not ENDED, SPLIT by equal weights");
        LentBounds x = Make.weighed(20, 0, 30, 7, 1000, 0);
        x.bound(0, 1057, 1057);
        x.weigh(1, 1000000);
        x.end(0);
        Make.vouchAll(x, 0);
        Check.dueShares(x, 0, 0, 0, 4, 34, 11, 1004, 4);
        x.end(3);
        Make.vouchAll(x, 3);
        Check.dueShares(x, 0, 0, 0, 7, 37, 0, 1007, 6);
    }

    private static void termsToThoseNotEnded() {
        Check.terms("comes to those who are not ENDED");
        LentBounds x = Make.tens();
        Make.endAll(x, 1, 2, 3, 4);
        Make.vouchAll(x, 2);
        Check.dueShares(x, 0, 0, 15, 10, 0, 10, 10, 15);
        x.end(5);
        Make.vouchAll(x, 1);
        Check.dueShares(x, 0, 0, 25, 0, 0, 10, 10, 15);
        Check.dueShares(x, 0, 1, 50, 0, 0, 20, 20, 30);
    }

    private static void termsSideBySide() {
        Check.terms("(side by side, BOUND by BOUND)");
        LentBounds x = new LentBounds();
        x.bound(0, 6, 12);
        x.bound(0, 12, 30);
        x.lend(1, 1, 0, 1, 2);
        x.end(0);
        Make.vouchAll(x, 0);
        Check.dueShares(x, 0, 0, 0, 2, 1, 1, 1, 1);
        Check.dueShares(x, 0, 1, 0, 2, 1, 1, 1, 1);
        Check.dueShares(x, 1, 0, 0, 3, 3, 2, 2, 2);
        Check.dueShares(x, 1, 1, 0, 4, 4, 4, 3, 3);
        LentBounds one = new LentBounds();
        one.bound(0, 24, 24);
        one.lend(0, 0, 0, 1, 1);
        one.lend(0, 0, 0, 1, 1);
        one.end(0);
        Make.vouchAll(one, 0);
        // 2, 1 and 1 of one side are split as 4, not each on its own
        Check.dueShares(one, 0, 0, 0, 5, 5, 5, 5, 4);
    }

    private static void termsSixBounds() {
        Check.terms("(side by side, BOUND by BOUND)");
        LentBounds x = new LentBounds();
        for (int bound = 0; bound < 6; bound++) {
            x.bound(0, 30 + 30 * bound, 90 + 60 * bound);
        }
        x.end(5);
        Make.vouchAll(x, 5);
        for (int bound = 0; bound < 6; bound++) {
            long down = 6 + 6 * bound;
            long up = 12 + 6 * bound;
            Check.dueShares(x, bound, 0, down, down, down, down, down, 0);
            Check.dueShares(x, bound, 1, up, up, up, up, up, 0);
        }
    }

    private static void promise11Recovered() {
        Check.promise(11, "A PERSON that is not ENDED tells that it knows all of one that is: "
                + "2 if this is RECOVERED by that");
        LentBounds x = Make.tens();
        x.end(3);
        for (int person : new int[] {5, 0, 2, 1}) {
            Check.due("vouch(" + person + ", 3)", x.vouch(person, 3), 1);
        }
        Check.due("the last one", x.vouch(4, 3), 2);
        Check.due("person(3, 0)", x.person(3, 0), 2);
        Check.dueShares(x, 0, 0, 12, 12, 12, 0, 12, 12);
        Check.dueShares(x, 0, 1, 24, 24, 24, 0, 24, 24);
        Check.dueSums(x, 0, 60, 120, 0, 0, 0, 0);
        LentBounds empty = new LentBounds();
        empty.end(0);
        for (int person = 1; person < 5; person++) {
            empty.vouch(person, 0);
        }
        Check.due("with no bounds", empty.vouch(5, 0), 2);
    }

    private static void promise11OnlyOneLeft() {
        Check.promise(11, "2 if this is RECOVERED by that");
        LentBounds x = Make.tens();
        Make.endAll(x, 0, 1, 2, 3, 4);
        for (int ended = 0; ended < 5; ended++) {
            Check.due("vouch(5, " + ended + ")", x.vouch(5, ended), 2);
            Check.due("share", x.share(0, 0, 5), 20 + 10 * ended);
        }
        Check.dueSums(x, 0, 60, 120, 0, 0, 0, 0);
    }

    private static void promise11OthersHaveNot() {
        Check.promise(11, "1 if others have not told yet");
        LentBounds x = Make.tens();
        Make.endAll(x, 3, 4);
        Check.due("the first", x.vouch(0, 3), 1);
        Check.due("the second", x.vouch(1, 3), 1);
        Check.due("of another one", x.vouch(2, 4), 1);
        Check.due("the third", x.vouch(2, 3), 1);
        Check.due("person(3, 0)", x.person(3, 0), 1);
        Check.due("person(3, 3)", x.person(3, 3), 3);
        Check.due("person(4, 3)", x.person(4, 3), 1);
        Check.dueSums(x, 0, 40, 80, 0, 0, 20, 40);
    }

    private static void promise11ToldBefore() {
        Check.promise(11, "0 if it told before");
        LentBounds x = Make.tens();
        Make.endAll(x, 3, 4);
        x.vouch(0, 3);
        String before = State.of(x);
        Check.due("again", x.vouch(0, 3), 0);
        Check.due("and again", x.vouch(0, 3), 0);
        Check.dueSame("telling again", x, before);
        Check.due("of another one", x.vouch(0, 4), 1);
    }

    private static void promise11RecoveredBefore() {
        Check.promise(11, "or it is RECOVERED");
        LentBounds x = Make.tens();
        x.end(3);
        for (int person : new int[] {0, 1, 2, 4}) {
            x.vouch(person, 3);
        }
        x.end(5);
        Check.due("recovered", x.person(3, 0), 2);
        String before = State.of(x);
        for (int person : new int[] {0, 1, 2, 4}) {
            Check.due("one that told", x.vouch(person, 3), 0);
        }
        Check.dueSame("telling of a recovered one", x, before);
        LentBounds alone = Make.tens();
        Make.endAll(alone, 0, 1, 2, 3);
        Make.vouchAll(alone, 0);
        Check.due("an ended one", alone.vouch(1, 0), -1);
    }

    private static void promise11NoSuchOnes() {
        Check.promise(11, "NONE if there are no such ones");
        LentBounds x = Make.tens();
        Make.endAll(x, 3, 4);
        Make.vouchAll(x, 4);
        String before = State.of(x);
        for (int person : Make.NO_PEOPLE) {
            Check.due("by " + person, x.vouch(person, 3), -1);
            Check.due("of " + person, x.vouch(0, person), -1);
        }
        Check.due("of one that is well", x.vouch(0, 1), -1);
        Check.due("of oneself", x.vouch(0, 0), -1);
        Check.due("an ended one of itself", x.vouch(3, 3), -1);
        Check.due("an ended one of a recovered one", x.vouch(3, 4), -1);
        Check.due("a recovered one of an ended one", x.vouch(4, 3), -1);
        Check.due("a recovered one of itself", x.vouch(4, 4), -1);
        Check.due("an ended one of a well one", x.vouch(3, 0), -1);
        Check.dueSame("what nobody tells", x, before);
    }

    private static void promise11NobodyButEnded() {
        Check.promise(11, "or nobody but ENDED ones");
        LentBounds x = Make.tens();
        Make.endAll(x, 0, 1, 2, 3, 4, 5);
        String before = State.of(x);
        for (int person = 0; person < 6; person++) {
            for (int ended = 0; ended < 6; ended++) {
                Check.due("vouch(" + person + ", " + ended + ")", x.vouch(person, ended), -1);
            }
        }
        Check.dueSame("telling among ended ones", x, before);
    }
}
