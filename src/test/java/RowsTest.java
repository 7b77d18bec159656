import java.util.NoSuchElementException;

/** Of the terms rows; promises 6 (lend), 8 (deliver), 9 (lose), 14 (row), 15 (lent). */
public final class RowsTest {
    private static final Class<NoSuchElementException> NO_SUCH = NoSuchElementException.class;

    public static void main(String[] args) {
        all();
        Check.finish();
    }

    static void all() {
        termsRows();
        termsSides();
        termsTakenOffAtOnce();
        termsSecondTime();
        termsLost();
        promise6Number();
        promise6NotSoMuch();
        promise6TwoHundredRows();
        promise6NoSuchOnes();
        promise6SameOne();
        promise6Ended();
        promise6NoSuchSide();
        promise6NoSuchV();
        promise8SomethingCame();
        promise8Before();
        promise8NoneSuch();
        promise8Lost();
        promise9Lost();
        promise9NoneSuch();
        promise9Delivered();
        promise9LostBefore();
        promise14Row();
        promise14State();
        promise14HowOften();
        promise14NoneSuch();
        promise14AnotherWhat();
        promise15HowMuch();
        promise15NoneSuch();
    }

    /** Person 0 has lent 1 to person 1 two hundred times. */
    private static LentBounds twoHundredRows() {
        LentBounds x = new LentBounds();
        x.bound(0, 6000, 6000);
        for (int row = 1; row <= 200; row++) {
            Check.due("row", x.lend(0, 0, 0, 1, 1), row);
        }
        return x;
    }

    private static void termsRows() {
        Check.terms("ROWS 1, 2, .. (200 at most)");
        LentBounds x = twoHundredRows();
        Check.due("one more", x.lend(0, 0, 0, 1, 1), 0);
        Check.due("one more asked for", x.ask(0, 0, 0, 1), 0);
        Check.due("total(1)", x.total(1), 200);
        for (int row = 1; row <= 200; row++) {
            Check.due("lent(" + row + ")", x.lent(row), 1);
        }
        Check.due("row 0", x.row(0, 0), -1);
        Check.due("row 201", x.row(201, 0), -1);
        Check.due("deliver(200)", x.deliver(200), 1);
        Check.due("deliver(201)", x.deliver(201), -1);
        Check.due("lose(199)", x.lose(199), true);
        Check.dueSums(x, 0, 5801, 0, 198, 0, 1, 0);
        Check.due("one more still", x.lend(0, 0, 0, 1, 1), 0);
    }

    private static void termsSides() {
        Check.terms("LEND a PERSON's SHARE of a BOUND (DOWN 0, UP 1) to another one");
        LentBounds x = Make.tens();
        x.bound(0, 60, 180);
        x.lend(1, 0, 4, 5, 3);
        x.lend(1, 1, 4, 5, 7);
        x.deliver(1);
        x.deliver(2);
        Check.dueShares(x, 1, 0, 10, 10, 10, 10, 7, 13);
        Check.dueShares(x, 1, 1, 20, 20, 20, 20, 13, 27);
        Check.dueShares(x, 0, 0, 10, 10, 10, 10, 10, 10);
        Check.dueShares(x, 0, 1, 20, 20, 20, 20, 20, 20);
        Check.due("the value stays", x.sum(1, 0), 60);
    }

    private static void termsTakenOffAtOnce() {
        Check.terms("it is taken off at once, and comes to that one when the ROW is DELIVERED the first time");
        LentBounds x = Make.tens();
        x.lend(0, 0, 0, 1, 4);
        x.lend(0, 0, 0, 2, 6);
        Check.dueShares(x, 0, 0, 0, 10, 10);
        Check.due("taken off", x.take(0, 0, 1), 0);
        Check.due("not come", x.take(0, 1, 11), 0);
        x.deliver(2);
        Check.dueShares(x, 0, 0, 0, 10, 16);
        x.deliver(1);
        Check.dueShares(x, 0, 0, 0, 14, 16);
        Check.due("come", x.take(0, 1, 14), 1);
    }

    private static void termsSecondTime() {
        Check.terms("(a second time does nothing)");
        LentBounds x = Make.tens();
        x.lend(0, 0, 0, 1, 4);
        x.deliver(1);
        x.patient(1, true);
        x.take(0, 1, -30);
        x.take(0, 1, 14);
        x.deliver(1);
        x.deliver(1);
        Check.dueShares(x, 0, 0, 6, 0);
        Check.dueSums(x, 0, 46, 134, 0, 0, 0, 0);
        Check.due("it wakes nobody", x.person(1, 2), 1);
    }

    private static void termsLost() {
        Check.terms("A ROW that is LOST before is DELIVERED no more, and its room is STUCK");
        LentBounds x = Make.tens();
        x.lend(0, 0, 0, 1, 4);
        x.lend(0, 1, 0, 1, 5);
        x.lose(1);
        x.lose(2);
        Check.due("deliver(1)", x.deliver(1), -1);
        Check.due("deliver(2)", x.deliver(2), -1);
        Check.dueShares(x, 0, 0, 6, 10);
        Check.dueShares(x, 0, 1, 15, 20);
        Check.dueSums(x, 0, 56, 115, 0, 0, 4, 5);
    }

    private static void promise6Number() {
        Check.promise(6, "A PERSON LENDS v (1 or more) of a SHARE to another one: the ROW's number");
        LentBounds x = Make.tens();
        Check.due("the least", x.lend(0, 0, 0, 5, 1), 1);
        Check.due("all", x.lend(0, 1, 5, 0, 20), 2);
        Check.due("the rest", x.lend(0, 0, 0, 1, 9), 3);
        Check.dueShares(x, 0, 0, 0, 10, 10, 10, 10, 10);
        Check.dueShares(x, 0, 1, 20, 20, 20, 20, 20, 0);
        Check.dueSums(x, 0, 50, 100, 10, 20, 0, 0);
    }

    private static void promise6NotSoMuch() {
        Check.promise(6, "0 if the SHARE has not so much");
        LentBounds x = Make.tens();
        x.lend(0, 0, 3, 4, 10);
        String before = State.of(x);
        Check.due("one too much", x.lend(0, 0, 0, 1, 11), 0);
        Check.due("one too much up", x.lend(0, 1, 0, 1, 21), 0);
        Check.due("of an empty share", x.lend(0, 0, 3, 1, 1), 0);
        Check.due("what has not come yet", x.lend(0, 0, 4, 1, 11), 0);
        Check.due("beyond the most", x.lend(0, 0, 0, 1, Make.MOST + 1), 0);
        Check.due("2^32 + 1", x.lend(0, 0, 0, 1, (1L << 32) + 1), 0);
        Check.due("the greatest long", x.lend(0, 0, 0, 1, Long.MAX_VALUE), 0);
        Check.dueSame("refused rows", x, before);
        Check.due("the next number", x.lend(0, 0, 0, 1, 10), 2);
    }

    private static void promise6TwoHundredRows() {
        Check.promise(6, "or 200 ROWS were");
        LentBounds x = twoHundredRows();
        String before = State.of(x);
        Check.due("one more", x.lend(0, 0, 0, 1, 1), 0);
        Check.due("one more of another", x.lend(0, 0, 4, 5, 1000), 0);
        Check.due("too much", x.lend(0, 0, 4, 5, 1001), 0);
        Check.due("a wrong one", x.lend(0, 0, 0, 0, 1), -1);
        Check.dueSame("refused rows", x, before);
        Check.dueShares(x, 0, 0, 800, 1000);
        x.deliver(1);
        x.lose(2);
        Check.due("delivered and lost ones were, too", x.lend(0, 0, 0, 1, 1), 0);
    }

    private static void promise6NoSuchOnes() {
        Check.promise(6, "NONE if there are no such ones");
        LentBounds x = Make.tens();
        String before = State.of(x);
        for (int bound : Make.NO_BOUNDS) {
            Check.due("bound " + bound, x.lend(bound, 0, 0, 1, 1), -1);
        }
        for (int person : Make.NO_PEOPLE) {
            Check.due("from " + person, x.lend(0, 0, person, 1, 1), -1);
            Check.due("to " + person, x.lend(0, 0, 0, person, 1), -1);
            Check.due("both " + person, x.lend(0, 0, person, person, 1), -1);
        }
        Check.due("wrong, and too much", x.lend(0, 0, 6, 1, 1000), -1);
        Check.dueSame("rows of nobody", x, before);
    }

    private static void promise6SameOne() {
        Check.promise(6, "they are the same one");
        LentBounds x = Make.tens();
        String before = State.of(x);
        for (int person = 0; person < 6; person++) {
            Check.due("to oneself", x.lend(0, 0, person, person, 1), -1);
            Check.due("too much", x.lend(0, 1, person, person, 1000), -1);
        }
        Check.dueSame("rows to oneself", x, before);
    }

    private static void promise6Ended() {
        Check.promise(6, "one is ENDED");
        LentBounds x = Make.tens();
        Make.endAll(x, 3, 4);
        String before = State.of(x);
        Check.due("from an ended one", x.lend(0, 0, 3, 1, 1), -1);
        Check.due("to an ended one", x.lend(0, 0, 1, 3, 1), -1);
        Check.due("both", x.lend(0, 0, 4, 3, 1), -1);
        Check.due("too much", x.lend(0, 0, 1, 3, 1000), -1);
        Check.dueSame("rows of ended ones", x, before);
        Make.vouchAll(x, 3);
        Check.due("from a recovered one", x.lend(0, 0, 3, 1, 1), -1);
        Check.due("to a recovered one", x.lend(0, 0, 1, 3, 1), -1);
    }

    private static void promise6NoSuchSide() {
        Check.promise(6, "no such side");
        LentBounds x = Make.tens();
        String before = State.of(x);
        for (int side : Make.NO_SIDES) {
            Check.due("side " + side, x.lend(0, side, 0, 1, 1), -1);
            Check.due("side " + side + ", too much", x.lend(0, side, 0, 1, 1000), -1);
        }
        Check.dueSame("rows of no side", x, before);
    }

    private static void promise6NoSuchV() {
        Check.promise(6, "or v");
        LentBounds x = Make.tens();
        x.lend(0, 0, 5, 4, 10);
        String before = State.of(x);
        for (long v : Make.NO_AMOUNTS) {
            Check.due("v " + v, x.lend(0, 0, 0, 1, v), -1);
            Check.due("v " + v + " of an empty share", x.lend(0, 0, 5, 1, v), -1);
        }
        Check.dueSame("rows of nothing", x, before);
    }

    private static void promise8SomethingCame() {
        Check.promise(8, "A ROW is DELIVERED: 1 if something came by it");
        LentBounds x = Make.tens();
        x.lend(0, 0, 0, 1, 4);
        x.lend(0, 1, 0, 1, 5);
        Check.due("the second one first", x.deliver(2), 1);
        Check.dueShares(x, 0, 0, 6, 10);
        Check.dueShares(x, 0, 1, 15, 25);
        Check.due("the first one late", x.deliver(1), 1);
        Check.dueShares(x, 0, 0, 6, 14);
        Check.dueSums(x, 0, 60, 120, 0, 0, 0, 0);
        x.lend(0, 0, 0, 2, 1);
        x.end(0);
        Check.due("from an ended one", x.deliver(3), 1);
        Check.due("share(0, 0, 2)", x.share(0, 0, 2), 11);
        x.lend(0, 0, 1, 2, 1);
        x.end(2);
        Check.due("to an ended one", x.deliver(4), 1);
        Check.due("share(0, 0, 2)", x.share(0, 0, 2), 12);
    }

    private static void promise8Before() {
        Check.promise(8, "0 if it was DELIVERED before");
        LentBounds x = Make.tens();
        x.lend(0, 0, 0, 1, 4);
        x.deliver(1);
        Check.due("again", x.deliver(1), 0);
        Check.due("and again", x.deliver(1), 0);
        Check.dueShares(x, 0, 0, 6, 14);
        x.end(1);
        Check.due("to an ended one", x.deliver(1), 0);
        Make.vouchAll(x, 1);
        Check.due("to a recovered one", x.deliver(1), 0);
        Check.dueShares(x, 0, 0, 9, 0);
    }

    private static void promise8NoneSuch() {
        Check.promise(8, "NONE if there is none such");
        LentBounds x = Make.tens();
        x.lend(0, 0, 0, 1, 4);
        String before = State.of(x);
        for (int row : Make.NO_ROWS) {
            Check.due("deliver(" + row + ")", x.deliver(row), -1);
        }
        Check.due("the next one", x.deliver(2), -1);
        Check.dueSame("rows that are not", x, before);
    }

    private static void promise8Lost() {
        Check.promise(8, "or it is LOST");
        LentBounds x = Make.tens();
        x.lend(0, 0, 0, 1, 4);
        x.lend(0, 0, 2, 3, 4);
        x.lose(1);
        x.end(2);
        Make.vouchAll(x, 2);
        String before = State.of(x);
        Check.due("lost", x.deliver(1), -1);
        Check.due("lost by a recovery", x.deliver(2), -1);
        Check.dueSame("lost rows", x, before);
    }

    private static void promise9Lost() {
        Check.promise(9, "A ROW is LOST: true");
        LentBounds x = Make.tens();
        x.lend(0, 0, 0, 1, 4);
        x.lend(0, 1, 0, 2, 5);
        Check.due("lose(1)", x.lose(1), true);
        Check.dueSums(x, 0, 56, 115, 0, 5, 4, 0);
        Check.due("row(1, 4)", x.row(1, 4), 2);
        Check.due("row(2, 4)", x.row(2, 4), 0);
        x.end(2);
        Check.due("to an ended one", x.lose(2), true);
        Check.dueSums(x, 0, 46, 95, 0, 0, 14, 25);
    }

    private static void promise9NoneSuch() {
        Check.promise(9, "false if there is none such");
        LentBounds x = Make.tens();
        x.lend(0, 0, 0, 1, 4);
        String before = State.of(x);
        for (int row : Make.NO_ROWS) {
            Check.due("lose(" + row + ")", x.lose(row), false);
        }
        Check.due("the next one", x.lose(2), false);
        Check.dueSame("rows that are not", x, before);
    }

    private static void promise9Delivered() {
        Check.promise(9, "it was DELIVERED");
        LentBounds x = Make.tens();
        x.lend(0, 0, 0, 1, 4);
        x.deliver(1);
        String before = State.of(x);
        Check.due("lose", x.lose(1), false);
        Check.dueSame("a row that was delivered", x, before);
    }

    private static void promise9LostBefore() {
        Check.promise(9, "or is LOST");
        LentBounds x = Make.tens();
        x.lend(0, 0, 0, 1, 4);
        x.lend(0, 0, 2, 3, 4);
        x.lose(1);
        x.end(2);
        Make.vouchAll(x, 2);
        String before = State.of(x);
        Check.due("lost", x.lose(1), false);
        Check.due("lost by a recovery", x.lose(2), false);
        Check.dueSame("lost rows", x, before);
    }

    private static LentBounds twoRows() {
        LentBounds x = Make.tens();
        x.bound(0, 6, 6);
        x.lend(0, 1, 4, 2, 5);
        x.ask(1, 0, 0, 1);
        return x;
    }

    private static void promise14Row() {
        LentBounds x = twoRows();
        Check.promise(14, "Of a ROW, what 0: its BOUND");
        Check.due("row(1, 0)", x.row(1, 0), 0);
        Check.due("row(2, 0)", x.row(2, 0), 1);
        Check.promise(14, "1: the side");
        Check.due("row(1, 1)", x.row(1, 1), 1);
        Check.due("row(2, 1)", x.row(2, 1), 0);
        Check.promise(14, "2: who LENT");
        Check.due("row(1, 2)", x.row(1, 2), 4);
        Check.due("row(2, 2)", x.row(2, 2), 1);
        Check.promise(14, "3: to whom");
        Check.due("row(1, 3)", x.row(1, 3), 2);
        Check.due("row(2, 3)", x.row(2, 3), 0);
    }

    private static void promise14State() {
        Check.promise(14, "4: 0 under way, 1 DELIVERED, 2 LOST");
        LentBounds x = twoRows();
        x.lend(0, 0, 5, 4, 1);
        Check.due("under way", x.row(1, 4), 0);
        x.deliver(1);
        Check.due("delivered", x.row(1, 4), 1);
        x.deliver(1);
        Check.due("delivered twice", x.row(1, 4), 1);
        x.lose(2);
        Check.due("lost", x.row(2, 4), 2);
        x.end(4);
        Check.due("under way to an ended one", x.row(3, 4), 0);
        Make.vouchAll(x, 4);
        Check.due("to a recovered one", x.row(3, 4), 2);
        Check.due("delivered, from a recovered one", x.row(1, 4), 1);
    }

    private static void promise14HowOften() {
        Check.promise(14, "5: how often it was DELIVERED");
        LentBounds x = twoRows();
        Check.due("never", x.row(1, 5), 0);
        for (int n = 1; n <= 300; n++) {
            x.deliver(1);
            Check.due("how often", x.row(1, 5), n);
        }
        x.lose(2);
        x.deliver(2);
        Check.due("a lost one never", x.row(2, 5), 0);
    }

    private static void promise14NoneSuch() {
        Check.promise(14, "NONE if there is none such");
        LentBounds x = twoRows();
        for (int what = 0; what < 6; what++) {
            for (int row : Make.NO_ROWS) {
                Check.due("row(" + row + ", " + what + ")", x.row(row, what), -1);
            }
            Check.due("the next one", x.row(3, what), -1);
        }
    }

    private static void promise14AnotherWhat() {
        Check.promise(14, "or for another what");
        LentBounds x = twoRows();
        for (int what : new int[] {-1, 6, 7, Integer.MIN_VALUE, Integer.MAX_VALUE}) {
            Check.due("row(1, " + what + ")", x.row(1, what), -1);
        }
    }

    private static void promise15HowMuch() {
        Check.promise(15, "How much a ROW LENT");
        LentBounds x = Make.tens();
        x.lend(0, 1, 4, 2, 5);
        x.ask(0, 0, 0, 500);
        x.lend(0, 0, 3, 1, 1);
        Check.due("lent(1)", x.lent(1), 5);
        Check.due("lent(2), all there was", x.lent(2), 10);
        Check.due("lent(3)", x.lent(3), 1);
        x.deliver(1);
        x.lose(2);
        x.end(1);
        Make.vouchAll(x, 1);
        Check.due("delivered", x.lent(1), 5);
        Check.due("lost", x.lent(2), 10);
        Check.due("lost by a recovery", x.lent(3), 1);
        LentBounds great = Make.alone(-Make.MOST, 0, Make.MOST);
        great.take(0, 0, Make.MOST);
        great.lend(0, 1, 0, 1, 2 * Make.MOST);
        Check.due("twice the most", great.lent(1), 2 * Make.MOST);
    }

    private static void promise15NoneSuch() {
        Check.promise(15, "NoSuchElementException: there is none such");
        LentBounds x = Make.tens();
        x.lend(0, 1, 4, 2, 5);
        for (int row : Make.NO_ROWS) {
            Check.dueThrow("lent(" + row + ")", NO_SUCH, () -> x.lent(row));
        }
        Check.dueThrow("the next one", NO_SUCH, () -> x.lent(2));
        Check.due("the last one", x.lent(1), 5);
    }
}
