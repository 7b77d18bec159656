/** Objects to begin with, and arguments that are wrong everywhere. */
final class Make {
    static final long MOST = 1000000000000L;

    static final int[] NO_PEOPLE = {-1, 6, 7, 32, Integer.MIN_VALUE, Integer.MAX_VALUE};
    static final int[] NO_SIDES = {-1, 2, Integer.MIN_VALUE, Integer.MAX_VALUE};
    /** Of an object with one bound. */
    static final int[] NO_BOUNDS = {-1, 1, 5, 6, 7, Integer.MIN_VALUE, Integer.MAX_VALUE};
    /** Of an object with fewer than five rows. */
    static final int[] NO_ROWS = {0, -1, 5, 200, 201, Integer.MIN_VALUE, Integer.MAX_VALUE};
    static final long[] NO_AMOUNTS = {0, -1, -MOST, -Long.MAX_VALUE, Long.MIN_VALUE};

    private Make() {
    }

    /** Room 60 down and 120 up: 10 and 20 for each person. */
    static LentBounds tens() {
        LentBounds x = new LentBounds();
        x.bound(0, 60, 180);
        return x;
    }

    static LentBounds weighed(long... weights) {
        LentBounds x = new LentBounds();
        for (int person = 0; person < weights.length; person++) {
            x.weigh(person, weights[person]);
        }
        return x;
    }

    /** Person 0 has all the room. */
    static LentBounds alone(long floor, long value, long ceiling) {
        LentBounds x = weighed(1, 0, 0, 0, 0, 0);
        x.bound(floor, value, ceiling);
        return x;
    }

    /** Each one that is there and not ended tells of this one. */
    static void vouchAll(LentBounds x, int ended) {
        for (int person = 0; person < 6; person++) {
            x.vouch(person, ended);
        }
    }

    static void endAll(LentBounds x, int... people) {
        for (int person : people) {
            x.end(person);
        }
    }
}
