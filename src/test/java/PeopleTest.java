/** Promises 10 (end), 11 (vouch), 17 (person). */
public final class PeopleTest {
    public static void main(String[] args) {
        promise10End();
        promise10RecoversWhenTheLastOneEnds();
        promise10RecoversTheFirstPerson();
        promise10RecoversSeveralInTurn();
        promise10NobodyIsLeft();
        promise11Vouch();
        promise11WrongOnes();
        promise11WhatComesBack();
        promise11RowsComeBackOnce();
        promise11SharesAndRowsAreOneRoom();
        promise11EachSideOfEachBound();
        promise11SixBounds();
        promise17Person();
        Check.finish();
    }

    /** Room 60 down and 120 up: 10 and 20 for each person. */
    private static LentBounds tens() {
        LentBounds x = new LentBounds();
        x.bound(0, 60, 180);
        return x;
    }

    private static void vouchAll(LentBounds x, int ended) {
        for (int person = 0; person < 6; person++) {
            x.vouch(person, ended);
        }
    }

    private static void promise10End() {
        LentBounds x = tens();
        x.patient(0, true);
        x.take(0, 0, 11);
        Check.due("end(0)", x.end(0), true);
        Check.due("end(0) again", x.end(0), false);
        Check.due("end(-1)", x.end(-1), false);
        Check.due("end(6)", x.end(6), false);
        Check.due("person(0, 0)", x.person(0, 0), 1);
        Check.due("what it waits for is gone", x.person(0, 2), 0);
        Check.due("its share", x.share(0, 0, 0), 10);
        Check.dueSums(x, 0, 50, 100, 0, 0, 10, 20);
        vouchAll(x, 0);
        Check.due("end a recovered one", x.end(0), false);
        Check.due("person(0, 0)", x.person(0, 0), 2);
    }

    private static void promise10RecoversWhenTheLastOneEnds() {
        LentBounds x = tens();
        x.end(2);
        for (int person : new int[] {0, 1, 3, 4}) {
            Check.due("vouch", x.vouch(person, 2), 1);
        }
        Check.due("end one that told", x.end(0), true);
        Check.due("person(2, 0)", x.person(2, 0), 1);
        Check.due("end the last one that had not", x.end(5), true);
        Check.due("person(2, 0)", x.person(2, 0), 2);
        Check.due("person(5, 0)", x.person(5, 0), 1);
        Check.due("person(2, 3)", x.person(2, 3), 4);
        Check.dueShares(x, 0, 0, 10, 14, 0, 13, 13, 10);
        Check.dueShares(x, 0, 1, 20, 27, 0, 27, 26, 20);
        Check.dueSums(x, 0, 40, 80, 0, 0, 20, 40);
    }

    private static void promise10RecoversTheFirstPerson() {
        LentBounds x = tens();
        x.end(0);
        for (int person = 1; person < 5; person++) {
            x.vouch(person, 0);
        }
        x.end(5);
        Check.due("person(0, 0)", x.person(0, 0), 2);
        Check.dueShares(x, 0, 0, 0, 13, 13, 12, 12, 10);
    }

    private static void promise10RecoversSeveralInTurn() {
        LentBounds x = tens();
        // row 1 from 4 to 1: the first of the two that are recovered brings it back
        x.lend(0, 0, 4, 1, 2);
        x.lend(0, 0, 1, 5, 4);
        x.end(4);
        x.end(1);
        for (int person : new int[] {0, 2, 3}) {
            x.vouch(person, 4);
            x.vouch(person, 1);
        }
        Check.dueSums(x, 0, 40, 80, 4, 0, 16, 40);
        Check.due("end(5)", x.end(5), true);
        Check.due("person(1, 0)", x.person(1, 0), 2);
        Check.due("person(4, 0)", x.person(4, 0), 2);
        // by 1: 6 + 2 + 4 = 12, 4 to each; by 4: 8, so 3, 3, 2
        Check.dueShares(x, 0, 0, 17, 0, 17, 16, 0, 10);
        // by each 20: 7, 7, 6 twice
        Check.dueShares(x, 0, 1, 34, 0, 34, 32, 0, 20);
        Check.due("row(1, 4)", x.row(1, 4), 2);
        Check.due("row(2, 4)", x.row(2, 4), 2);
        Check.dueSums(x, 0, 50, 100, 0, 0, 10, 20);
    }

    private static void promise10NobodyIsLeft() {
        LentBounds x = tens();
        for (int person = 0; person < 6; person++) {
            Check.due("end", x.end(person), true);
        }
        for (int person = 0; person < 6; person++) {
            Check.due("person(.., 0)", x.person(person, 0), 1);
            Check.due("vouch", x.vouch(person, 0), -1);
        }
        Check.dueSums(x, 0, 0, 0, 0, 0, 60, 120);
    }

    private static void promise11Vouch() {
        LentBounds x = tens();
        x.end(3);
        Check.due("vouch(0, 3)", x.vouch(0, 3), 1);
        Check.due("vouch(0, 3) again", x.vouch(0, 3), 0);
        Check.due("vouch(5, 3)", x.vouch(5, 3), 1);
        Check.due("vouch(1, 3)", x.vouch(1, 3), 1);
        Check.due("vouch(2, 3)", x.vouch(2, 3), 1);
        Check.due("person(3, 0)", x.person(3, 0), 1);
        Check.due("vouch(4, 3)", x.vouch(4, 3), 2);
        Check.due("person(3, 0)", x.person(3, 0), 2);
        Check.due("vouch(4, 3) behind it", x.vouch(4, 3), 0);
        Check.due("vouch(0, 3) behind it", x.vouch(0, 3), 0);
        Check.dueShares(x, 0, 0, 12, 12, 12, 0, 12, 12);
        Check.dueShares(x, 0, 1, 24, 24, 24, 0, 24, 24);
        Check.dueSums(x, 0, 60, 120, 0, 0, 0, 0);
        for (int person = 1; person < 6; person++) {
            x.end(person);
        }
        Check.due("the only one left", x.vouch(0, 5), 2);
        Check.due("share", x.share(0, 0, 0), 24);
    }

    private static void promise11WrongOnes() {
        LentBounds x = tens();
        x.end(3);
        x.end(4);
        Check.due("of one that is well", x.vouch(0, 1), -1);
        Check.due("of oneself", x.vouch(0, 0), -1);
        Check.due("an ended one of oneself", x.vouch(3, 3), -1);
        Check.due("an ended one of another", x.vouch(3, 4), -1);
        Check.due("an ended one of a well one", x.vouch(3, 0), -1);
        Check.due("person -1", x.vouch(-1, 3), -1);
        Check.due("person 6", x.vouch(6, 3), -1);
        Check.due("of -1", x.vouch(0, -1), -1);
        Check.due("of 6", x.vouch(0, 6), -1);
        Check.due("person(3, 3)", x.person(3, 3), 0);
        vouchAll(x, 4);
        Check.due("a recovered one of another", x.vouch(4, 3), -1);
    }

    private static void promise11WhatComesBack() {
        LentBounds x = tens();
        x.lend(0, 0, 0, 1, 3);
        x.lend(0, 0, 1, 0, 4);
        x.lend(0, 0, 0, 2, 2);
        x.lend(0, 0, 3, 0, 1);
        x.lend(0, 0, 3, 2, 5);
        x.lend(0, 0, 4, 0, 6);
        x.lose(3);
        x.lose(4);
        x.lose(5);
        x.deliver(6);
        x.end(0);
        Check.dueSums(x, 0, 34, 100, 3, 0, 23, 20);
        vouchAll(x, 0);
        // 11 of its own, 3 and 4 under way, 2 and 1 lost: 21, so 5, 4, 4, 4, 4
        Check.dueShares(x, 0, 0, 0, 11, 14, 8, 8, 14);
        int[] states = {2, 2, 2, 2, 2, 1};
        for (int row = 1; row <= 6; row++) {
            Check.due("row(" + row + ", 4)", x.row(row, 4), states[row - 1]);
        }
        Check.dueSums(x, 0, 55, 120, 0, 0, 5, 0);
        Check.due("deliver(1)", x.deliver(1), -1);
        Check.due("lose(2)", x.lose(2), false);
        Check.due("deliver(6)", x.deliver(6), 0);
        Check.dueSums(x, 0, 55, 120, 0, 0, 5, 0);
    }

    private static void promise11RowsComeBackOnce() {
        LentBounds x = tens();
        x.lend(0, 0, 0, 1, 3);
        x.end(0);
        x.end(1);
        vouchAll(x, 1);
        // 10 and the row's 3: 4, 3, 3, 3
        Check.dueShares(x, 0, 0, 7, 0, 14, 13, 13, 13);
        vouchAll(x, 0);
        Check.dueShares(x, 0, 0, 0, 0, 16, 15, 15, 14);
        Check.dueSums(x, 0, 60, 120, 0, 0, 0, 0);
    }

    private static void promise11SharesAndRowsAreOneRoom() {
        LentBounds x = new LentBounds();
        x.bound(0, 24, 24);
        x.lend(0, 0, 0, 1, 1);
        x.lend(0, 0, 0, 1, 1);
        x.end(0);
        vouchAll(x, 0);
        // 2, 1 and 1 are split as 4, not each on its own
        Check.dueShares(x, 0, 0, 0, 5, 5, 5, 5, 4);
    }

    private static void promise11EachSideOfEachBound() {
        LentBounds x = new LentBounds();
        x.bound(0, 6, 12);
        x.bound(0, 12, 30);
        x.lend(1, 1, 0, 1, 2);
        x.end(0);
        vouchAll(x, 0);
        Check.dueShares(x, 0, 0, 0, 2, 1, 1, 1, 1);
        Check.dueShares(x, 0, 1, 0, 2, 1, 1, 1, 1);
        Check.dueShares(x, 1, 0, 0, 3, 3, 2, 2, 2);
        Check.dueShares(x, 1, 1, 0, 4, 4, 4, 3, 3);
        x.weigh(1, 1000);
        x.end(2);
        vouchAll(x, 2);
        Check.dueShares(x, 0, 0, 0, 3, 0, 1, 1, 1);
    }

    private static void promise11SixBounds() {
        LentBounds x = new LentBounds();
        for (int bound = 0; bound < 6; bound++) {
            x.bound(0, 30 + 6 * bound, 60 + 12 * bound);
        }
        x.end(5);
        vouchAll(x, 5);
        Check.dueShares(x, 0, 0, 6, 6, 6, 6, 6, 0);
        Check.dueShares(x, 0, 1, 6, 6, 6, 6, 6, 0);
        Check.dueShares(x, 5, 0, 12, 12, 12, 12, 12, 0);
        Check.dueShares(x, 5, 1, 12, 12, 12, 12, 12, 0);
    }

    private static void promise17Person() {
        LentBounds x = tens();
        x.patient(2, true);
        x.take(0, 2, 11);
        x.take(0, 2, 12);
        Check.due("person(2, 0)", x.person(2, 0), 0);
        Check.due("person(2, 1)", x.person(2, 1), 1);
        Check.due("person(2, 2)", x.person(2, 2), 2);
        Check.due("person(2, 3)", x.person(2, 3), 0);
        x.end(2);
        x.vouch(0, 2);
        x.vouch(5, 2);
        x.vouch(5, 2);
        Check.due("person(2, 0)", x.person(2, 0), 1);
        Check.due("person(2, 2)", x.person(2, 2), 0);
        Check.due("person(2, 3)", x.person(2, 3), 2);
        x.end(5);
        Check.due("one that told is ended", x.person(2, 3), 2);
        vouchAll(x, 2);
        Check.due("person(2, 0)", x.person(2, 0), 2);
        Check.due("person(2, 3)", x.person(2, 3), 5);
        Check.due("person(0, 3)", x.person(0, 3), 0);
        Check.due("person(-1, 0)", x.person(-1, 0), -1);
        Check.due("person(6, 0)", x.person(6, 0), -1);
        Check.due("person(0, 4)", x.person(0, 4), -1);
        Check.due("person(0, -1)", x.person(0, -1), -1);
    }
}
