/** Of the terms who is asked; promise 7 (ask). */
public final class AsksTest {
    public static void main(String[] args) {
        all();
        Check.finish();
    }

    static void all() {
        termsGreatestShare();
        termsNotEnded();
        termsFirstOfSeveral();
        termsAllItHas();
        promise7Number();
        promise7OthersHaveNothing();
        promise7TwoHundredRows();
        promise7NoSuchOnes();
        promise7NoSuchSideOrV();
        promise7EndedAsks();
    }

    private static void dueRow(LentBounds x, int row, int from, int to, long v) {
        Check.due("who lent row " + row, x.row(row, 2), from);
        Check.due("to whom", x.row(row, 3), to);
        Check.due("how much", x.lent(row), v);
    }

    private static void termsGreatestShare() {
        Check.terms("ASKS: a PERSON who lacks room asks: of the others that are not ENDED "
                + "the one with the greatest SHARE of that side");
        LentBounds x = Make.weighed(9, 3, 5, 0, 6, 1);
        x.bound(0, 24, 24);
        x.weigh(5, 30);
        x.bound(0, 53, 106);
        Check.due("person 1 asks", x.ask(0, 0, 1, 1), 1);
        dueRow(x, 1, 0, 1, 1);
        Check.due("the greatest asks: the next", x.ask(0, 0, 0, 1), 2);
        dueRow(x, 2, 4, 0, 1);
        Check.due("of the other bound", x.ask(1, 1, 0, 1), 3);
        dueRow(x, 3, 5, 0, 1);
        x.take(1, 5, 30);
        Check.due("of the other side: down", x.ask(1, 0, 5, 1), 4);
        dueRow(x, 4, 0, 5, 1);
        x.take(1, 2, -5);
        Check.due("what was given counts", x.ask(1, 0, 0, 1), 5);
        dueRow(x, 5, 2, 0, 1);
    }

    private static void termsNotEnded() {
        Check.terms("of the others that are not ENDED");
        LentBounds x = Make.weighed(1, 2, 3, 4, 5, 6);
        x.bound(0, 21, 21);
        x.end(5);
        Check.due("the greatest is ended", x.ask(0, 0, 0, 1), 1);
        dueRow(x, 1, 4, 0, 1);
        Make.endAll(x, 4, 3);
        Check.due("three are ended", x.ask(0, 0, 0, 1), 2);
        dueRow(x, 2, 2, 0, 1);
        Make.vouchAll(x, 5);
        Check.due("recovered", x.person(5, 0), 2);
        Check.due("6 came back: 2 to each", x.ask(0, 0, 0, 9), 3);
        dueRow(x, 3, 1, 0, 4);
    }

    private static void termsFirstOfSeveral() {
        Check.terms("(of several the first one)");
        LentBounds x = Make.tens();
        Check.due("all are alike", x.ask(0, 0, 3, 1), 1);
        dueRow(x, 1, 0, 3, 1);
        Check.due("the first that has 10", x.ask(0, 0, 3, 1), 2);
        dueRow(x, 2, 1, 3, 1);
        Check.due("the first one asks", x.ask(0, 0, 0, 1), 3);
        dueRow(x, 3, 2, 0, 1);
        Check.due("only the asking one and later ones have 10", x.ask(0, 0, 3, 1), 4);
        dueRow(x, 4, 4, 3, 1);
    }

    private static void termsAllItHas() {
        Check.terms("LENDS what is asked, or all it has, if that is less");
        LentBounds x = Make.tens();
        x.ask(0, 0, 0, 9);
        dueRow(x, 1, 1, 0, 9);
        x.ask(0, 0, 0, 10);
        dueRow(x, 2, 2, 0, 10);
        x.ask(0, 0, 0, 11);
        dueRow(x, 3, 3, 0, 10);
        x.ask(0, 0, 0, Long.MAX_VALUE);
        dueRow(x, 4, 4, 0, 10);
        x.ask(0, 1, 0, Make.MOST + 1);
        dueRow(x, 5, 1, 0, 20);
        Check.dueShares(x, 0, 0, 10, 1, 0, 0, 0, 10);
        Check.dueShares(x, 0, 1, 20, 0, 20, 20, 20, 20);
        Check.dueSums(x, 0, 21, 100, 39, 20, 0, 0);
    }

    private static void promise7Number() {
        Check.promise(7, "A PERSON ASKS for v (1 or more) of a side: the ROW's number by which another one LENDS");
        LentBounds x = Make.tens();
        x.lend(0, 0, 5, 4, 1);
        Check.due("the least", x.ask(0, 1, 2, 1), 2);
        int[] due = {0, 1, 0, 2, 0, 0};
        for (int what = 0; what < 6; what++) {
            Check.due("row(2, " + what + ")", x.row(2, what), due[what]);
        }
        Check.dueShares(x, 0, 1, 19, 20, 20);
        Check.due("it comes", x.deliver(2), 1);
        Check.dueShares(x, 0, 1, 19, 20, 21);
        Check.due("the next", x.ask(0, 0, 2, 3), 3);
    }

    private static void promise7OthersHaveNothing() {
        Check.promise(7, "0 if all others have nothing");
        LentBounds x = Make.alone(0, 6, 12);
        String before = State.of(x);
        Check.due("the only one that has", x.ask(0, 0, 0, 1), 0);
        Check.due("of the other side", x.ask(0, 1, 0, 1), 0);
        Check.due("the greatest long", x.ask(0, 1, 0, Long.MAX_VALUE), 0);
        Check.dueSame("asks in vain", x, before);
        x.take(0, 0, -6);
        Check.due("that side is empty", x.ask(0, 1, 1, 1), 0);
        LentBounds last = Make.tens();
        Make.endAll(last, 0, 1, 2, 3, 4);
        Check.due("all others are ended", last.ask(0, 0, 5, 1), 0);
        Check.due("total(1)", last.total(1), 0);
    }

    private static void promise7TwoHundredRows() {
        Check.promise(7, "or 200 ROWS were");
        LentBounds x = new LentBounds();
        x.bound(0, 6000, 6000);
        for (int row = 1; row <= 200; row++) {
            Check.due("row", x.ask(0, 0, 0, 1), row);
        }
        String before = State.of(x);
        Check.due("one more", x.ask(0, 0, 0, 1), 0);
        Check.due("a wrong one", x.ask(0, 0, 0, 0), -1);
        Check.dueSame("asks in vain", x, before);
        Check.dueShares(x, 0, 0, 1000, 960, 960, 960, 960, 960);
        x.deliver(1);
        Check.due("delivered ones were, too", x.ask(0, 0, 0, 1), 0);
    }

    private static void promise7NoSuchOnes() {
        Check.promise(7, "NONE as for lend()");
        LentBounds x = Make.tens();
        String before = State.of(x);
        for (int bound : Make.NO_BOUNDS) {
            Check.due("bound " + bound, x.ask(bound, 0, 0, 1), -1);
        }
        for (int person : Make.NO_PEOPLE) {
            Check.due("person " + person, x.ask(0, 0, person, 1), -1);
        }
        Check.dueSame("asks of nobody", x, before);
    }

    private static void promise7NoSuchSideOrV() {
        Check.promise(7, "NONE as for lend()");
        LentBounds x = Make.alone(0, 6, 12);
        String before = State.of(x);
        for (int side : Make.NO_SIDES) {
            Check.due("side " + side, x.ask(0, side, 1, 1), -1);
        }
        for (long v : Make.NO_AMOUNTS) {
            Check.due("v " + v, x.ask(0, 0, 1, v), -1);
            Check.due("v " + v + ", and others have nothing", x.ask(0, 0, 0, v), -1);
        }
        Check.dueSame("asks for nothing", x, before);
    }

    private static void promise7EndedAsks() {
        Check.promise(7, "NONE as for lend()");
        LentBounds x = Make.tens();
        x.end(1);
        String before = State.of(x);
        Check.due("an ended one", x.ask(0, 0, 1, 1), -1);
        Check.dueSame("an ended one's ask", x, before);
        Make.vouchAll(x, 1);
        Check.due("a recovered one", x.ask(0, 0, 1, 1), -1);
        Make.endAll(x, 0, 2, 3, 4, 5);
        Check.due("all are ended", x.ask(0, 0, 5, 1), -1);
    }
}
