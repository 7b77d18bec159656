import java.util.NoSuchElementException;

/** Promises 6 (lend), 7 (ask), 8 (deliver), 9 (lose), 14 (row), 15 (lent). */
public final class RowsTest {
    public static void main(String[] args) {
        promise6Lend();
        promise6WrongOnes();
        promise6TwoHundredRows();
        promise7AsksTheRichest();
        promise7WrongOnes();
        promise7TwoHundredRows();
        promise8Deliver();
        promise8ToAnEndedOne();
        promise8FromAnEndedOne();
        promise9Lose();
        promise14Row();
        promise15Lent();
        Check.finish();
    }

    /** Room 60 down and 120 up: 10 and 20 for each person. */
    private static LentBounds tens() {
        LentBounds x = new LentBounds();
        x.bound(0, 60, 180);
        return x;
    }

    private static void promise6Lend() {
        LentBounds x = tens();
        Check.due("lend down", x.lend(0, 0, 0, 1, 4), 1);
        Check.dueShares(x, 0, 0, 6, 10);
        Check.due("lend up, all", x.lend(0, 1, 5, 0, 20), 2);
        Check.dueShares(x, 0, 1, 20, 20, 20, 20, 20, 0);
        Check.due("too much", x.lend(0, 0, 0, 1, 7), 0);
        Check.due("far too much", x.lend(0, 0, 0, 1, Long.MAX_VALUE), 0);
        Check.due("of nothing", x.lend(0, 1, 5, 0, 1), 0);
        Check.due("the rest", x.lend(0, 0, 0, 1, 6), 3);
        Check.due("total(1)", x.total(1), 3);
        Check.due("value", x.sum(0, 0), 60);
        Check.dueSums(x, 0, 50, 100, 10, 20, 0, 0);
    }

    private static void promise6WrongOnes() {
        LentBounds x = tens();
        Check.due("bound 1", x.lend(1, 0, 0, 1, 1), -1);
        Check.due("bound -1", x.lend(-1, 0, 0, 1, 1), -1);
        Check.due("side 2", x.lend(0, 2, 0, 1, 1), -1);
        Check.due("side -1", x.lend(0, -1, 0, 1, 1), -1);
        Check.due("from -1", x.lend(0, 0, -1, 1, 1), -1);
        Check.due("from 6", x.lend(0, 0, 6, 1, 1), -1);
        Check.due("to -1", x.lend(0, 0, 0, -1, 1), -1);
        Check.due("to 6", x.lend(0, 0, 0, 6, 1), -1);
        Check.due("the same one", x.lend(0, 0, 2, 2, 1), -1);
        Check.due("v 0", x.lend(0, 0, 0, 1, 0), -1);
        Check.due("v -1", x.lend(0, 0, 0, 1, -1), -1);
        Check.due("v least", x.lend(0, 0, 0, 1, Long.MIN_VALUE), -1);
        x.end(3);
        Check.due("from an ended one", x.lend(0, 0, 3, 1, 1), -1);
        Check.due("to an ended one", x.lend(0, 0, 1, 3, 1), -1);
        Check.due("wrong and too much", x.lend(0, 0, 1, 1, 1000), -1);
        Check.due("total(1)", x.total(1), 0);
        Check.dueShares(x, 0, 0, 10, 10, 10, 10, 10, 10);
    }

    private static void promise6TwoHundredRows() {
        LentBounds x = new LentBounds();
        x.bound(0, 6000, 6000);
        for (int row = 1; row <= 200; row++) {
            Check.due("row", x.lend(0, 0, 0, 1, 1), row);
        }
        Check.due("one more", x.lend(0, 0, 0, 1, 1), 0);
        Check.due("one more asked", x.ask(0, 0, 0, 1), 0);
        Check.due("a wrong one", x.lend(0, 0, 0, 0, 1), -1);
        Check.dueShares(x, 0, 0, 800, 1000);
        Check.due("total(1)", x.total(1), 200);
        Check.due("deliver(200)", x.deliver(200), 1);
        Check.due("deliver(201)", x.deliver(201), -1);
        Check.due("row(200, 4)", x.row(200, 4), 1);
        Check.due("row(201, 4)", x.row(201, 4), -1);
        Check.due("lose(199)", x.lose(199), true);
        Check.dueSums(x, 0, 5801, 0, 198, 0, 1, 0);
        Check.due("one more still", x.lend(0, 0, 0, 1, 1), 0);
    }

    private static void promise7AsksTheRichest() {
        LentBounds x = tens();
        Check.due("all are alike: the first other", x.ask(0, 0, 0, 3), 1);
        Check.due("who lent", x.row(1, 2), 1);
        Check.due("to whom", x.row(1, 3), 0);
        Check.due("how much", x.lent(1), 3);
        Check.due("of the first that has 10", x.ask(0, 0, 5, 10), 2);
        Check.due("who lent", x.row(2, 2), 0);
        Check.due("more than one has", x.ask(0, 0, 0, 1000), 3);
        Check.due("who lent", x.row(3, 2), 2);
        Check.due("all it had", x.lent(3), 10);
        Check.dueShares(x, 0, 0, 0, 7, 0, 10, 10, 10);
        x.end(3);
        Check.due("not an ended one", x.ask(0, 0, 0, Long.MAX_VALUE), 4);
        Check.due("who lent", x.row(4, 2), 4);
        Check.due("the richest last", x.ask(0, 0, 1, 1), 5);
        Check.due("who lent", x.row(5, 2), 5);
        x.ask(0, 0, 0, 9);
        Check.due("who lent", x.row(6, 2), 5);
        Check.due("only the own share is left", x.ask(0, 0, 1, 1), 0);
        Check.due("the other side", x.ask(0, 1, 1, 1), 7);
        Check.due("the side", x.row(7, 1), 1);
        Check.due("total(1)", x.total(1), 7);
    }

    private static void promise7WrongOnes() {
        LentBounds x = tens();
        Check.due("bound 1", x.ask(1, 0, 0, 1), -1);
        Check.due("bound -1", x.ask(-1, 0, 0, 1), -1);
        Check.due("side 2", x.ask(0, 2, 0, 1), -1);
        Check.due("side -1", x.ask(0, -1, 0, 1), -1);
        Check.due("person 6", x.ask(0, 0, 6, 1), -1);
        Check.due("person -1", x.ask(0, 0, -1, 1), -1);
        Check.due("v 0", x.ask(0, 0, 0, 0), -1);
        Check.due("v -1", x.ask(0, 0, 0, -1), -1);
        for (int person = 1; person < 6; person++) {
            x.end(person);
        }
        Check.due("all others are ended", x.ask(0, 0, 0, 1), 0);
        Check.due("an ended one asks", x.ask(0, 0, 1, 1), -1);
        Check.due("total(1)", x.total(1), 0);
    }

    private static void promise7TwoHundredRows() {
        LentBounds x = new LentBounds();
        x.bound(0, 6000, 6000);
        for (int row = 1; row <= 200; row++) {
            Check.due("row", x.ask(0, 0, 0, 1), row);
        }
        Check.due("one more", x.ask(0, 0, 0, 1), 0);
        Check.due("a wrong one", x.ask(0, 0, 0, 0), -1);
        Check.dueShares(x, 0, 0, 1000, 960, 960, 960, 960, 960);
    }

    private static void promise8Deliver() {
        LentBounds x = tens();
        x.lend(0, 0, 0, 1, 4);
        x.lend(0, 1, 0, 1, 5);
        Check.due("deliver(2) before 1", x.deliver(2), 1);
        Check.dueShares(x, 0, 0, 6, 10);
        Check.dueShares(x, 0, 1, 15, 25);
        Check.due("deliver(2) again", x.deliver(2), 0);
        Check.due("and again", x.deliver(2), 0);
        Check.dueShares(x, 0, 1, 15, 25);
        Check.due("how often", x.row(2, 5), 3);
        Check.due("deliver(1)", x.deliver(1), 1);
        Check.dueShares(x, 0, 0, 6, 14);
        Check.dueSums(x, 0, 60, 120, 0, 0, 0, 0);
        Check.due("deliver(0)", x.deliver(0), -1);
        Check.due("deliver(3)", x.deliver(3), -1);
        Check.due("deliver(-1)", x.deliver(-1), -1);
        Check.due("deliver(least)", x.deliver(Integer.MIN_VALUE), -1);
        x.lend(0, 0, 0, 1, 1);
        x.lose(3);
        Check.due("deliver a lost one", x.deliver(3), -1);
        Check.due("it was not", x.row(3, 5), 0);
        Check.dueShares(x, 0, 0, 5, 14);
    }

    private static void promise8ToAnEndedOne() {
        LentBounds x = tens();
        x.patient(1, true);
        x.take(0, 1, 11);
        x.lend(0, 0, 0, 1, 4);
        x.end(1);
        Check.dueSums(x, 0, 46, 100, 0, 0, 14, 20);
        Check.due("it comes", x.deliver(1), 1);
        Check.due("and is stuck", x.share(0, 0, 1), 14);
        Check.dueSums(x, 0, 46, 100, 0, 0, 14, 20);
        Check.due("nothing is done", x.sum(0, 0), 60);
        Check.due("again", x.deliver(1), 0);
        Check.due("row(1, 4)", x.row(1, 4), 1);
    }

    private static void promise8FromAnEndedOne() {
        LentBounds x = tens();
        x.lend(0, 0, 0, 1, 4);
        x.end(0);
        Check.dueSums(x, 0, 50, 100, 4, 0, 6, 20);
        Check.due("it comes", x.deliver(1), 1);
        Check.dueShares(x, 0, 0, 6, 14);
        Check.dueSums(x, 0, 54, 100, 0, 0, 6, 20);
    }

    private static void promise9Lose() {
        LentBounds x = tens();
        x.lend(0, 0, 0, 1, 4);
        x.lend(0, 1, 0, 1, 5);
        x.lend(0, 1, 0, 2, 1);
        Check.due("lose(1)", x.lose(1), true);
        Check.due("lose(1) again", x.lose(1), false);
        Check.dueSums(x, 0, 56, 114, 0, 6, 4, 0);
        x.deliver(2);
        Check.due("lose a delivered one", x.lose(2), false);
        Check.due("row(2, 4)", x.row(2, 4), 1);
        Check.due("lose(0)", x.lose(0), false);
        Check.due("lose(4)", x.lose(4), false);
        Check.due("lose(-1)", x.lose(-1), false);
        x.end(2);
        Check.due("lose one to an ended one", x.lose(3), true);
        Check.dueSums(x, 0, 46, 99, 0, 0, 14, 21);
        Check.due("deliver(3)", x.deliver(3), -1);
    }

    private static void promise14Row() {
        LentBounds x = tens();
        x.bound(0, 6, 6);
        x.lend(0, 1, 4, 2, 5);
        x.ask(1, 0, 0, 1);
        int[] first = {0, 1, 4, 2, 0, 0};
        int[] second = {1, 0, 1, 0, 0, 0};
        for (int what = 0; what < 6; what++) {
            Check.due("row(1, " + what + ")", x.row(1, what), first[what]);
            Check.due("row(2, " + what + ")", x.row(2, what), second[what]);
            Check.due("row(0, " + what + ")", x.row(0, what), -1);
            Check.due("row(3, " + what + ")", x.row(3, what), -1);
            Check.due("row(-1, " + what + ")", x.row(-1, what), -1);
        }
        Check.due("row(1, 6)", x.row(1, 6), -1);
        Check.due("row(1, -1)", x.row(1, -1), -1);
        x.deliver(1);
        x.deliver(1);
        x.lose(2);
        Check.due("delivered", x.row(1, 4), 1);
        Check.due("how often", x.row(1, 5), 2);
        Check.due("lost", x.row(2, 4), 2);
        Check.due("how often", x.row(2, 5), 0);
    }

    private static void promise15Lent() {
        LentBounds x = tens();
        Class<NoSuchElementException> none = NoSuchElementException.class;
        x.lend(0, 1, 4, 2, 5);
        x.ask(0, 0, 0, 500);
        Check.due("lent(1)", x.lent(1), 5);
        Check.due("lent(2)", x.lent(2), 10);
        x.deliver(1);
        x.lose(2);
        Check.due("lent(1) delivered", x.lent(1), 5);
        Check.due("lent(2) lost", x.lent(2), 10);
        x.end(1);
        for (int person = 0; person < 6; person++) {
            x.vouch(person, 1);
        }
        Check.due("lent(2) recovered", x.lent(2), 10);
        Check.dueThrow("lent(0)", none, () -> x.lent(0));
        Check.dueThrow("lent(3)", none, () -> x.lent(3));
        Check.dueThrow("lent(-1)", none, () -> x.lent(-1));
        Check.dueThrow("lent(201)", none, () -> x.lent(201));
    }
}
