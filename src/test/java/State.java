import java.util.NoSuchElementException;

/** All that the looking calls of an object answer, as one text. */
final class State {
    private State() {
    }

    static String of(LentBounds x) {
        StringBuilder text = new StringBuilder("totals");
        for (int what = 0; what < 4; what++) {
            text.append(' ').append(x.total(what));
        }
        text.append('\n');
        for (int bound = 0; bound < x.total(0); bound++) {
            addBound(text, x, bound);
        }
        for (int person = 0; person < 6; person++) {
            addPerson(text, x, person);
        }
        for (int row = 1; row <= x.total(1); row++) {
            addRow(text, x, row);
        }
        return text.toString();
    }

    private static void addBound(StringBuilder text, LentBounds x, int bound) {
        text.append("bound ").append(bound).append(':');
        for (int what = 0; what < 9; what++) {
            text.append(' ').append(x.sum(bound, what));
        }
        for (int side = 0; side < 2; side++) {
            text.append(side == 0 ? " down" : " up");
            for (int person = 0; person < 6; person++) {
                text.append(' ').append(x.share(bound, side, person));
            }
        }
        text.append('\n');
    }

    private static void addPerson(StringBuilder text, LentBounds x, int person) {
        text.append("person ").append(person).append(':');
        for (int what = 0; what < 4; what++) {
            text.append(' ').append(x.person(person, what));
        }
        text.append(" waits");
        for (int k = 0; k < 9; k++) {
            text.append(' ').append(waiting(x, person, k));
        }
        text.append('\n');
    }

    private static String waiting(LentBounds x, int person, int k) {
        try {
            return Long.toString(x.waits(person, k));
        } catch (NoSuchElementException e) {
            return "-";
        }
    }

    private static void addRow(StringBuilder text, LentBounds x, int row) {
        text.append("row ").append(row).append(':');
        for (int what = 0; what < 6; what++) {
            text.append(' ').append(x.row(row, what));
        }
        text.append(" lent ").append(x.lent(row)).append('\n');
    }
}
