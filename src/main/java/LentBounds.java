import java.util.Arrays;
import java.util.NoSuchElementException;

/** Numbers with a floor and a ceiling whose room is lent in shares to people; the promises stand in DOC.md. */
public final class LentBounds {
    public static final int NONE = -1;

    private static final int MOST_PEOPLE = 6;
    private static final int MOST_BOUNDS = 6;
    private static final int MOST_ROWS = 200;
    private static final int MOST_WAITING = 8;
    private static final long MOST_WEIGHT = 1000000L;
    private static final long MOST_ROOM = 1000000000000L;

    private static final int DOWN = 0;
    private static final int UP = 1;
    private static final int SIDES = 2;

    private static final int WELL = 0;
    private static final int ENDED = 1;
    private static final int RECOVERED = 2;

    private static final int UNDER_WAY = 0;
    private static final int DELIVERED = 1;
    private static final int LOST = 2;

    private static final int DONE = 1;
    private static final int WAITING = 2;
    private static final int REFUSED = 0;

    private final People people = new People();
    private final Bounds bounds = new Bounds();
    private final Rows rows = new Rows();
    private final Queues queues = new Queues();
    private final Splitter splitter = new Splitter();
    private int doneCount;
    private int refusedCount;

    public LentBounds() {
    }

    public boolean weigh(int person, long weight) {
        if (!people.isWell(person) || weight < 0 || weight > MOST_WEIGHT) {
            return false;
        }
        people.weights[person] = weight;
        return true;
    }

    public int bound(long floor, long value, long ceiling)
            throws IllegalArgumentException, ArithmeticException, IllegalStateException {
        if (!isInOrder(floor, value, ceiling)) {
            throw new IllegalArgumentException("floor, value and ceiling are not in this order, or too far apart");
        }
        useOwnWeights();
        if (splitter.allWeights() == 0) {
            throw new ArithmeticException("all weights are 0");
        }
        if (bounds.count >= MOST_BOUNDS) {
            throw new IllegalStateException("there are as many bounds as can be");
        }
        int bound = bounds.open(floor, value, ceiling);
        splitter.split(value - floor);
        bounds.setShares(bound, DOWN, splitter.parts);
        splitter.split(ceiling - value);
        bounds.setShares(bound, UP, splitter.parts);
        return bound;
    }

    public boolean patient(int person, boolean on) {
        if (!people.isWell(person) || people.patience[person] == on) {
            return false;
        }
        people.patience[person] = on;
        return true;
    }

    public int take(int bound, int person, long v) {
        if (!bounds.has(bound) || !people.isWell(person) || v == 0 || v < -MOST_ROOM || v > MOST_ROOM) {
            return NONE;
        }
        if (bounds.move(bound, person, v)) {
            doneCount++;
            return DONE;
        }
        if (people.patience[person] && queues.append(person, bound, v)) {
            return WAITING;
        }
        refusedCount++;
        return REFUSED;
    }

    public int lend(int bound, int side, int from, int to, long v) {
        if (!canAskFor(bound, side, to, v) || !people.isWell(from) || from == to) {
            return NONE;
        }
        if (bounds.shareOf(bound, side, from) < v) {
            return 0;
        }
        return send(bound, side, from, to, v);
    }

    public int ask(int bound, int side, int person, long v) {
        if (!canAskFor(bound, side, person, v)) {
            return NONE;
        }
        int richest = richestOther(bound, side, person);
        if (richest == NONE) {
            return 0;
        }
        return send(bound, side, richest, person, Math.min(v, bounds.shareOf(bound, side, richest)));
    }

    public int deliver(int row) {
        if (!rows.has(row) || rows.states[row] == LOST) {
            return NONE;
        }
        rows.deliveries[row]++;
        if (rows.states[row] == DELIVERED) {
            return 0;
        }
        rows.states[row] = DELIVERED;
        receive(rows.boundOf[row], rows.sideOf[row], rows.borrowers[row], rows.empty(row));
        return 1;
    }

    public boolean lose(int row) {
        if (!rows.has(row) || rows.states[row] != UNDER_WAY) {
            return false;
        }
        rows.states[row] = LOST;
        return true;
    }

    public boolean end(int person) {
        if (!people.isWell(person)) {
            return false;
        }
        people.states[person] = ENDED;
        queues.clear(person);
        for (int gone = 0; gone < MOST_PEOPLE; gone++) {
            if (people.canBeRecovered(gone)) {
                recover(gone);
            }
        }
        return true;
    }

    public int vouch(int person, int ended) {
        if (!people.isWell(person) || !People.has(ended) || people.states[ended] == WELL) {
            return NONE;
        }
        if (people.states[ended] == RECOVERED || !people.tell(person, ended)) {
            return 0;
        }
        if (!people.canBeRecovered(ended)) {
            return 1;
        }
        recover(ended);
        return 2;
    }

    public long share(int bound, int side, int person) throws NoSuchElementException {
        if (!bounds.has(bound) || !isSide(side) || !People.has(person)) {
            throw new NoSuchElementException("no such share");
        }
        return bounds.shareOf(bound, side, person);
    }

    public long sum(int bound, int what) throws NoSuchElementException {
        if (!bounds.has(bound)) {
            throw new NoSuchElementException("no such bound");
        }
        switch (what) {
            case 0: return bounds.values[bound];
            case 1: return bounds.floors[bound];
            case 2: return bounds.ceilings[bound];
            case 3: return sharesOfThose(bound, DOWN, true);
            case 4: return sharesOfThose(bound, UP, true);
            case 5: return heldByRows(bound, DOWN, false);
            case 6: return heldByRows(bound, UP, false);
            case 7: return sharesOfThose(bound, DOWN, false) + heldByRows(bound, DOWN, true);
            case 8: return sharesOfThose(bound, UP, false) + heldByRows(bound, UP, true);
            default: throw new NoSuchElementException("no such sum");
        }
    }

    public int row(int row, int what) {
        if (!rows.has(row)) {
            return NONE;
        }
        switch (what) {
            case 0: return rows.boundOf[row];
            case 1: return rows.sideOf[row];
            case 2: return rows.lenders[row];
            case 3: return rows.borrowers[row];
            case 4: return rows.states[row];
            case 5: return rows.deliveries[row];
            default: return NONE;
        }
    }

    public long lent(int row) throws NoSuchElementException {
        if (!rows.has(row)) {
            throw new NoSuchElementException("no such row");
        }
        return rows.amounts[row];
    }

    public long waits(int person, int k) throws NoSuchElementException {
        if (!People.has(person) || k < 0 || k >= queues.lengths[person]) {
            throw new NoSuchElementException("nothing waits there");
        }
        return queues.amounts[person][k];
    }

    public int person(int person, int what) {
        if (!People.has(person)) {
            return NONE;
        }
        switch (what) {
            case 0: return people.states[person];
            case 1: return people.patience[person] ? 1 : 0;
            case 2: return queues.lengths[person];
            case 3: return Integer.bitCount(people.tellers[person]);
            default: return NONE;
        }
    }

    public int total(int what) {
        switch (what) {
            case 0: return bounds.count;
            case 1: return rows.count;
            case 2: return doneCount;
            case 3: return refusedCount;
            default: return NONE;
        }
    }

    private static boolean isInOrder(long floor, long value, long ceiling) {
        return floor <= value && value <= ceiling && isRoom(value - floor) && isRoom(ceiling - value);
    }

    /** A difference of two longs in order is below 0 only where it went beyond the greatest long. */
    private static boolean isRoom(long difference) {
        return difference >= 0 && difference <= MOST_ROOM;
    }

    private static boolean isSide(int side) {
        return side == DOWN || side == UP;
    }

    private boolean canAskFor(int bound, int side, int person, long v) {
        return bounds.has(bound) && isSide(side) && people.isWell(person) && v >= 1;
    }

    /** NONE if all others have nothing. */
    private int richestOther(int bound, int side, int person) {
        int richest = NONE;
        long most = 0;
        for (int other = 0; other < MOST_PEOPLE; other++) {
            if (other != person && people.isWell(other) && bounds.shareOf(bound, side, other) > most) {
                richest = other;
                most = bounds.shareOf(bound, side, other);
            }
        }
        return richest;
    }

    /** The new row's number, 0 if there can be no more. */
    private int send(int bound, int side, int from, int to, long v) {
        if (rows.count >= MOST_ROWS) {
            return 0;
        }
        bounds.addToShare(bound, side, from, -v);
        return rows.open(bound, side, from, to, v);
    }

    /** Where nothing comes nobody is woken, though an own take may have made room since for one that waits. */
    private void receive(int bound, int side, int person, long v) {
        if (v <= 0) {
            return;
        }
        bounds.addToShare(bound, side, person, v);
        for (int n = 0; n < MOST_WAITING && goFirst(person); n++) {
            doneCount++;
        }
    }

    /** Whether the first one that waits could be done, and is. */
    private boolean goFirst(int person) {
        if (queues.lengths[person] == 0 || !bounds.move(queues.boundOf[person][0], person, queues.amounts[person][0])) {
            return false;
        }
        queues.removeFirst(person);
        return true;
    }

    private void recover(int gone) {
        people.states[gone] = RECOVERED;
        useEqualWeights();
        for (int bound = 0; bound < bounds.count; bound++) {
            for (int side = 0; side < SIDES; side++) {
                splitter.split(bounds.emptyShare(bound, side, gone) + rows.callBack(bound, side, gone));
                for (int person = 0; person < MOST_PEOPLE; person++) {
                    receive(bound, side, person, splitter.parts[person]);
                }
            }
        }
    }

    private void useOwnWeights() {
        for (int person = 0; person < MOST_PEOPLE; person++) {
            splitter.weights[person] = people.isWell(person) ? people.weights[person] : 0;
        }
    }

    private void useEqualWeights() {
        for (int person = 0; person < MOST_PEOPLE; person++) {
            splitter.weights[person] = people.isWell(person) ? 1 : 0;
        }
    }

    private long sharesOfThose(int bound, int side, boolean well) {
        long all = 0;
        for (int person = 0; person < MOST_PEOPLE; person++) {
            if (people.isWell(person) == well) {
                all += bounds.shareOf(bound, side, person);
            }
        }
        return all;
    }

    private long heldByRows(int bound, int side, boolean stuck) {
        long all = 0;
        for (int row = 1; row <= rows.count; row++) {
            if (rows.isOf(row, bound, side) && isStuck(row) == stuck) {
                all += rows.held[row];
            }
        }
        return all;
    }

    private boolean isStuck(int row) {
        return rows.states[row] == LOST || !people.isWell(rows.borrowers[row]);
    }

    private static final class People {
        final long[] weights = new long[MOST_PEOPLE];
        final boolean[] patience = new boolean[MOST_PEOPLE];
        final int[] states = new int[MOST_PEOPLE];
        /** Of each person the others that have told of it, a bit for each. */
        final int[] tellers = new int[MOST_PEOPLE];

        People() {
            Arrays.fill(weights, 1L);
        }

        static boolean has(int person) {
            return person >= 0 && person < MOST_PEOPLE;
        }

        boolean isWell(int person) {
            return has(person) && states[person] == WELL;
        }

        /** False if it told before. */
        boolean tell(int person, int gone) {
            int bit = 1 << person;
            if ((tellers[gone] & bit) != 0) {
                return false;
            }
            tellers[gone] |= bit;
            return true;
        }

        boolean canBeRecovered(int gone) {
            int well = 0;
            for (int person = 0; person < MOST_PEOPLE; person++) {
                if (states[person] == WELL) {
                    well |= 1 << person;
                }
            }
            return states[gone] == ENDED && well != 0 && (tellers[gone] & well) == well;
        }
    }

    private static final class Bounds {
        int count;
        final long[] floors = new long[MOST_BOUNDS];
        final long[] values = new long[MOST_BOUNDS];
        final long[] ceilings = new long[MOST_BOUNDS];
        /** A line for each side of each bound, a place in it for each person. */
        private final long[][] shares = new long[MOST_BOUNDS * SIDES][MOST_PEOPLE];

        boolean has(int bound) {
            return bound >= 0 && bound < count;
        }

        int open(long floor, long value, long ceiling) {
            floors[count] = floor;
            values[count] = value;
            ceilings[count] = ceiling;
            count++;
            return count - 1;
        }

        void setShares(int bound, int side, long[] parts) {
            for (int person = 0; person < MOST_PEOPLE; person++) {
                shares[bound * SIDES + side][person] = parts[person];
            }
        }

        long shareOf(int bound, int side, int person) {
            return shares[bound * SIDES + side][person];
        }

        void addToShare(int bound, int side, int person, long v) {
            shares[bound * SIDES + side][person] += v;
        }

        long emptyShare(int bound, int side, int person) {
            long v = shareOf(bound, side, person);
            addToShare(bound, side, person, -v);
            return v;
        }

        /** A take of v, or a give of -v if v is below 0; false, and nothing moves, if the share is too small. */
        boolean move(int bound, int person, long v) {
            long room = v > 0 ? shareOf(bound, DOWN, person) : shareOf(bound, UP, person);
            if (room < Math.abs(v)) {
                return false;
            }
            addToShare(bound, DOWN, person, -v);
            addToShare(bound, UP, person, v);
            values[bound] -= v;
            return true;
        }
    }

    /** Rows count from 1: place 0 of each array stays unused. */
    private static final class Rows {
        int count;
        final int[] boundOf = new int[MOST_ROWS + 1];
        final int[] sideOf = new int[MOST_ROWS + 1];
        final int[] lenders = new int[MOST_ROWS + 1];
        final int[] borrowers = new int[MOST_ROWS + 1];
        final int[] states = new int[MOST_ROWS + 1];
        final int[] deliveries = new int[MOST_ROWS + 1];
        final long[] amounts = new long[MOST_ROWS + 1];
        /** What is still in the row: nothing once it was delivered, or came back by a recovery. */
        final long[] held = new long[MOST_ROWS + 1];

        boolean has(int row) {
            return row >= 1 && row <= count;
        }

        boolean isOf(int row, int bound, int side) {
            return boundOf[row] == bound && sideOf[row] == side;
        }

        int open(int bound, int side, int from, int to, long v) {
            count++;
            boundOf[count] = bound;
            sideOf[count] = side;
            lenders[count] = from;
            borrowers[count] = to;
            amounts[count] = v;
            held[count] = v;
            return count;
        }

        long empty(int row) {
            long v = held[row];
            held[row] = 0;
            return v;
        }

        /** All that rows from or to this person hold; these rows are lost by it. */
        long callBack(int bound, int side, int person) {
            long all = 0;
            for (int row = 1; row <= count; row++) {
                boolean concerns = lenders[row] == person || borrowers[row] == person;
                if (concerns && isOf(row, bound, side) && states[row] != DELIVERED) {
                    states[row] = LOST;
                    all += empty(row);
                }
            }
            return all;
        }
    }

    /** Of each person the takes that wait, the first one at place 0. */
    private static final class Queues {
        final int[] lengths = new int[MOST_PEOPLE];
        final int[][] boundOf = new int[MOST_PEOPLE][MOST_WAITING];
        final long[][] amounts = new long[MOST_PEOPLE][MOST_WAITING];

        /** False if as many wait as can. */
        boolean append(int person, int bound, long v) {
            int place = lengths[person];
            if (place >= MOST_WAITING) {
                return false;
            }
            boundOf[person][place] = bound;
            amounts[person][place] = v;
            lengths[person]++;
            return true;
        }

        void removeFirst(int person) {
            for (int place = 1; place < lengths[person]; place++) {
                boundOf[person][place - 1] = boundOf[person][place];
                amounts[person][place - 1] = amounts[person][place];
            }
            lengths[person]--;
        }

        void clear(int person) {
            lengths[person] = 0;
        }
    }

    /** Splits a room by weights to the last unit; its arrays are used again for each split. */
    private static final class Splitter {
        private static final long SERVED = -1;

        final long[] weights = new long[MOST_PEOPLE];
        final long[] parts = new long[MOST_PEOPLE];
        private final long[] rests = new long[MOST_PEOPLE];

        long allWeights() {
            long all = 0;
            for (int person = 0; person < MOST_PEOPLE; person++) {
                all += weights[person];
            }
            return all;
        }

        /** The greatest room times the greatest weight stays far below the greatest long. */
        void split(long room) {
            long all = allWeights();
            if (all <= 0) {
                Arrays.fill(parts, 0L);
                return;
            }
            long left = room;
            for (int person = 0; person < MOST_PEOPLE; person++) {
                long product = room * weights[person];
                parts[person] = product / all;
                rests[person] = product % all;
                left -= parts[person];
            }
            for (int n = 0; n < MOST_PEOPLE && left > 0; n++) {
                int first = greatestRest();
                parts[first]++;
                rests[first] = SERVED;
                left--;
            }
        }

        private int greatestRest() {
            int greatest = 0;
            for (int person = 1; person < MOST_PEOPLE; person++) {
                if (rests[person] > rests[greatest]) {
                    greatest = person;
                }
            }
            return greatest;
        }
    }
}
