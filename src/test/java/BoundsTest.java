import java.util.NoSuchElementException;

/** 'What it is'; of the terms bounds, people and rooms; promises 1 (a new object), 3 (bound), 12 (share), 13 (sum). */
public final class BoundsTest {
    private static final long MOST = Make.MOST;
    private static final Class<IllegalArgumentException> WRONG = IllegalArgumentException.class;
    private static final Class<NoSuchElementException> NO_SUCH = NoSuchElementException.class;

    public static void main(String[] args) {
        all();
        Check.finish();
    }

    static void all() {
        calls512();
        termsBounds();
        termsPeople();
        termsFloorAndCeiling();
        termsRoom();
        termsRoomAtTheEndsOfLong();
        termsRoomAtMost();
        termsTwoShares();
        promise1NoBounds();
        promise1NobodyEnded();
        promise1NobodyWaits();
        promise3Number();
        promise3EmptyRooms();
        promise3Order();
        promise3OrderBeyondLong();
        promise3RoomTooGreat();
        promise3RoomBeyondLong();
        promise3AllWeights0();
        promise3AllEnded();
        promise3WeightsBehindOrder();
        promise3SixAre();
        promise3SixBehindTheOthers();
        promise12Share();
        promise12NoneSuch();
        promise13Value();
        promise13SharesInAll();
        promise13UnderWay();
        promise13Stuck();
        promise13NoneSuch();
        promise13NoSuchWhat();
    }

    private static void calls512() {
        Check.sentence("What it is", "An object is used for at most 512 calls after it has been made");
        LentBounds x = new LentBounds();
        x.bound(0, 6, 6);
        for (int call = 2; call <= 510; call++) {
            Check.due("call " + call, x.take(0, 0, call % 2 == 0 ? 1 : -1), 1);
        }
        Check.due("call 511", x.total(2), 509);
        Check.due("call 512", x.sum(0, 0), 5);
    }

    private static void termsBounds() {
        Check.terms("BOUNDS are 0 .. 5 at most");
        LentBounds x = new LentBounds();
        for (int bound = 0; bound < 6; bound++) {
            Check.due("take before it is there", x.take(bound, 0, 1), -1);
            Check.due("bound", x.bound(0, 60 + bound, 120), bound);
            Check.due("take", x.take(bound, 0, 1), 1);
        }
        for (int bound = 0; bound < 6; bound++) {
            Check.due("each has its own value", x.sum(bound, 0), 59 + bound);
        }
        Check.dueThrow("a seventh", IllegalStateException.class, () -> x.bound(0, 1, 2));
        Check.due("take of a seventh", x.take(6, 0, 1), -1);
        Check.due("take of -1", x.take(-1, 0, 1), -1);
    }

    private static void termsPeople() {
        Check.terms("PEOPLE 0 .. 5");
        LentBounds x = Make.tens();
        x.end(2);
        String before = State.of(x);
        for (int person : Make.NO_PEOPLE) {
            Check.due("weigh " + person, x.weigh(person, 1), false);
            Check.due("patient " + person, x.patient(person, true), false);
            Check.due("take " + person, x.take(0, person, 1), -1);
            Check.due("lend from " + person, x.lend(0, 0, person, 1, 1), -1);
            Check.due("lend to " + person, x.lend(0, 0, 1, person, 1), -1);
            Check.due("ask " + person, x.ask(0, 0, person, 1), -1);
            Check.due("end " + person, x.end(person), false);
            Check.due("vouch by " + person, x.vouch(person, 2), -1);
            Check.due("vouch of " + person, x.vouch(1, person), -1);
            Check.due("person " + person, x.person(person, 0), -1);
            Check.dueThrow("share " + person, NO_SUCH, () -> x.share(0, 0, person));
            Check.dueThrow("waits " + person, NO_SUCH, () -> x.waits(person, 0));
        }
        Check.dueSame("calls for people that are not", x, before);
        for (int person : new int[] {0, 5}) {
            Check.due("take " + person, x.take(0, person, 1), 1);
            Check.due("end " + person, x.end(person), true);
        }
    }

    private static void termsFloorAndCeiling() {
        Check.terms("A BOUND has a FLOOR, a CEILING and a value");
        LentBounds x = Make.alone(-4, 6, 14);
        x.bound(7, 8, 9);
        x.take(0, 0, 3);
        long[][] due = {{3, -4, 14}, {8, 7, 9}};
        for (int bound = 0; bound < 2; bound++) {
            for (int what = 0; what < 3; what++) {
                Check.due("sum(" + bound + ", " + what + ")", x.sum(bound, what), due[bound][what]);
            }
        }
    }

    private static void termsRoom() {
        Check.terms("ROOM DOWN is how far it may fall (value - FLOOR), ROOM UP how far it may rise (CEILING - value)");
        LentBounds x = Make.alone(-4, 6, 14);
        Check.dueSums(x, 0, 10, 8);
        Check.due("beyond the floor", x.take(0, 0, 11), 0);
        Check.due("to the floor", x.take(0, 0, 10), 1);
        Check.due("value", x.sum(0, 0), -4);
        Check.dueSums(x, 0, 0, 18);
        Check.due("below it", x.take(0, 0, 1), 0);
        Check.due("beyond the ceiling", x.take(0, 0, -19), 0);
        Check.due("to the ceiling", x.take(0, 0, -18), 1);
        Check.due("value", x.sum(0, 0), 14);
        Check.dueSums(x, 0, 18, 0);
        Check.due("above it", x.take(0, 0, -1), 0);
    }

    private static void termsRoomAtTheEndsOfLong() {
        Check.terms("ROOM DOWN is how far it may fall (value - FLOOR), ROOM UP how far it may rise (CEILING - value)");
        LentBounds low = Make.alone(Long.MIN_VALUE, Long.MIN_VALUE + 5, Long.MIN_VALUE + 5);
        Check.due("to the least long", low.take(0, 0, 5), 1);
        Check.due("value", low.sum(0, 0), Long.MIN_VALUE);
        Check.due("below it", low.take(0, 0, 1), 0);
        Check.due("far below it", low.take(0, 0, MOST), 0);
        LentBounds high = Make.alone(Long.MAX_VALUE - 5, Long.MAX_VALUE - 5, Long.MAX_VALUE);
        Check.due("to the greatest long", high.take(0, 0, -5), 1);
        Check.due("value", high.sum(0, 0), Long.MAX_VALUE);
        Check.due("above it", high.take(0, 0, -1), 0);
        Check.due("far above it", high.take(0, 0, -MOST), 0);
    }

    private static void termsRoomAtMost() {
        Check.terms("both at most 1000000000000");
        LentBounds x = new LentBounds();
        Check.due("the most down", x.bound(-MOST, 0, 0), 0);
        Check.due("the most up", x.bound(0, 0, MOST), 1);
        Check.due("the most of both", x.bound(-MOST, 0, MOST), 2);
        Check.dueSums(x, 2, MOST, MOST, 0, 0, 0, 0);
        Check.dueThrow("one more down", WRONG, () -> x.bound(-MOST - 1, 0, 0));
        Check.dueThrow("one more up", WRONG, () -> x.bound(0, 0, MOST + 1));
    }

    private static void termsTwoShares() {
        Check.terms("Each PERSON has of each BOUND two SHARES, DOWN and UP, "
                + "all of which are at first as bound() tells");
        LentBounds x = Make.weighed(3, 2, 1, 0, 0, 0);
        x.bound(0, 6, 18);
        x.bound(0, 12, 12);
        Check.dueShares(x, 0, 0, 3, 2, 1, 0, 0, 0);
        Check.dueShares(x, 0, 1, 6, 4, 2, 0, 0, 0);
        Check.dueShares(x, 1, 0, 6, 4, 2, 0, 0, 0);
        Check.dueShares(x, 1, 1, 0, 0, 0, 0, 0, 0);
    }

    private static void promise1NoBounds() {
        Check.promise(1, "No BOUNDS");
        LentBounds x = new LentBounds();
        for (int what = 0; what < 4; what++) {
            Check.due("total(" + what + ")", x.total(what), 0);
        }
        Check.dueThrow("share", NO_SUCH, () -> x.share(0, 0, 0));
        Check.dueThrow("sum", NO_SUCH, () -> x.sum(0, 0));
        Check.dueThrow("lent", NO_SUCH, () -> x.lent(1));
        Check.due("take", x.take(0, 0, 1), -1);
        Check.due("lend", x.lend(0, 0, 0, 1, 1), -1);
        Check.due("ask", x.ask(0, 0, 0, 1), -1);
        Check.due("deliver", x.deliver(1), -1);
        Check.due("lose", x.lose(1), false);
        Check.due("row", x.row(1, 0), -1);
    }

    private static void promise1NobodyEnded() {
        Check.promise(1, "nobody is ENDED");
        LentBounds x = new LentBounds();
        for (int person = 0; person < 6; person++) {
            Check.due("person(" + person + ", 0)", x.person(person, 0), 0);
            Check.due("person(" + person + ", 3)", x.person(person, 3), 0);
            Check.due("vouch", x.vouch((person + 1) % 6, person), -1);
        }
        Check.due("one can be ended with no bounds", x.end(0), true);
        Make.vouchAll(x, 0);
        Check.due("and recovered", x.person(0, 0), 2);
    }

    private static void promise1NobodyWaits() {
        Check.promise(1, "or WAITS");
        LentBounds x = new LentBounds();
        for (int person = 0; person < 6; person++) {
            int one = person;
            Check.due("person(" + person + ", 1)", x.person(person, 1), 0);
            Check.due("person(" + person + ", 2)", x.person(person, 2), 0);
            Check.dueThrow("waits(" + person + ", 0)", NO_SUCH, () -> x.waits(one, 0));
        }
        x.bound(0, 6, 6);
        Check.due("a take above the share", x.take(0, 0, 2), 0);
    }

    private static void promise3Number() {
        Check.promise(3, "A BOUND comes, its ROOM DOWN and UP SPLIT by the weights: its number");
        LentBounds x = Make.weighed(3, 2, 1, 0, 0, 0);
        Check.due("the first", x.bound(0, 10, 21), 0);
        Check.dueShares(x, 0, 0, 5, 3, 2, 0, 0, 0);
        Check.dueShares(x, 0, 1, 5, 4, 2, 0, 0, 0);
        x.weigh(5, 6);
        Check.due("the second", x.bound(-12, 0, 0), 1);
        Check.dueShares(x, 1, 0, 3, 2, 1, 0, 0, 6);
        Check.dueShares(x, 1, 1, 0, 0, 0, 0, 0, 0);
        Check.dueShares(x, 0, 0, 5, 3, 2, 0, 0, 0);
        Check.due("total(0)", x.total(0), 2);
    }

    private static void promise3EmptyRooms() {
        Check.promise(3, "A BOUND comes, its ROOM DOWN and UP SPLIT by the weights: its number");
        LentBounds x = new LentBounds();
        Check.due("no room at all", x.bound(7, 7, 7), 0);
        Check.dueSums(x, 0, 0, 0, 0, 0, 0, 0);
        Check.due("take", x.take(0, 0, 1), 0);
        Check.due("give", x.take(0, 0, -1), 0);
        Check.due("no room at the least long", x.bound(Long.MIN_VALUE, Long.MIN_VALUE, Long.MIN_VALUE), 1);
        Check.due("no room at the greatest", x.bound(Long.MAX_VALUE, Long.MAX_VALUE, Long.MAX_VALUE), 2);
        Check.due("the most above the least", x.bound(Long.MIN_VALUE, Long.MIN_VALUE, Long.MIN_VALUE + MOST), 3);
        Check.due("the most below the greatest", x.bound(Long.MAX_VALUE - MOST, Long.MAX_VALUE, Long.MAX_VALUE), 4);
        Check.dueSums(x, 3, 0, MOST);
        Check.dueSums(x, 4, MOST, 0);
    }

    private static void promise3Order() {
        Check.promise(3, "IllegalArgumentException: not floor, value, ceiling in this order");
        LentBounds x = Make.tens();
        String before = State.of(x);
        Check.dueThrow("floor above value", WRONG, () -> x.bound(5, 4, 9));
        Check.dueThrow("value above ceiling", WRONG, () -> x.bound(5, 9, 8));
        Check.dueThrow("ceiling below both", WRONG, () -> x.bound(5, 5, 4));
        Check.dueThrow("floor above both", WRONG, () -> x.bound(6, 5, 5));
        Check.dueThrow("all the other way", WRONG, () -> x.bound(3, 2, 1));
        Check.dueSame("refused bounds", x, before);
        Check.due("all the same", x.bound(5, 5, 5), 1);
    }

    private static void promise3OrderBeyondLong() {
        Check.promise(3, "IllegalArgumentException: not floor, value, ceiling in this order");
        LentBounds x = new LentBounds();
        // the differences of these wrap around to 1, or to 0
        Check.dueThrow("floor greatest", WRONG, () -> x.bound(Long.MAX_VALUE, Long.MIN_VALUE, Long.MIN_VALUE));
        Check.dueThrow("ceiling least", WRONG, () -> x.bound(Long.MAX_VALUE, Long.MAX_VALUE, Long.MIN_VALUE));
        Check.dueThrow("value least", WRONG, () -> x.bound(Long.MAX_VALUE, Long.MIN_VALUE, Long.MAX_VALUE));
        Check.due("total(0)", x.total(0), 0);
    }

    private static void promise3RoomTooGreat() {
        Check.promise(3, "or a room that is too great");
        LentBounds x = Make.tens();
        String before = State.of(x);
        Check.dueThrow("one too far down", WRONG, () -> x.bound(-1, MOST, MOST));
        Check.dueThrow("one too far up", WRONG, () -> x.bound(0, 0, MOST + 1));
        Check.dueThrow("one too far down, below 0", WRONG, () -> x.bound(-MOST - 3, -2, -2));
        Check.dueSame("refused bounds", x, before);
        Check.due("the most", x.bound(-MOST - 2, -2, MOST - 2), 1);
    }

    private static void promise3RoomBeyondLong() {
        Check.promise(3, "or a room that is too great");
        LentBounds x = new LentBounds();
        Check.dueThrow("2^64 - 1 down", WRONG, () -> x.bound(Long.MIN_VALUE, Long.MAX_VALUE, Long.MAX_VALUE));
        Check.dueThrow("2^64 - 1 up", WRONG, () -> x.bound(Long.MIN_VALUE, Long.MIN_VALUE, Long.MAX_VALUE));
        Check.dueThrow("2^63 down", WRONG, () -> x.bound(Long.MIN_VALUE, 0, 0));
        Check.dueThrow("2^63 up", WRONG, () -> x.bound(-1, -1, Long.MAX_VALUE));
        Check.dueThrow("2^63 - 1 down", WRONG, () -> x.bound(-Long.MAX_VALUE, 0, 0));
        Check.dueThrow("2^63 - 1 up", WRONG, () -> x.bound(0, 0, Long.MAX_VALUE));
        Check.dueThrow("2^63 down, 2^63 - 1 up", WRONG, () -> x.bound(Long.MIN_VALUE, 0, Long.MAX_VALUE));
        Check.due("total(0)", x.total(0), 0);
    }

    private static void promise3AllWeights0() {
        Check.promise(3, "ArithmeticException (asked behind that): all weights are 0");
        LentBounds x = Make.weighed(0, 0, 0, 0, 0, 0);
        Check.dueThrow("all weights 0", ArithmeticException.class, () -> x.bound(0, 1, 2));
        Check.dueThrow("and no room", ArithmeticException.class, () -> x.bound(0, 0, 0));
        Check.due("total(0)", x.total(0), 0);
        x.weigh(5, 1);
        Check.due("one weight 1", x.bound(0, 1, 2), 0);
        Check.dueShares(x, 0, 0, 0, 0, 0, 0, 0, 1);
        x.end(5);
        Check.dueThrow("all weights but an ended one's", ArithmeticException.class, () -> x.bound(0, 1, 2));
    }

    private static void promise3AllEnded() {
        Check.promise(3, "(or all ENDED)");
        LentBounds x = new LentBounds();
        Make.endAll(x, 0, 1, 2, 3, 4);
        Check.due("one is left", x.bound(0, 3, 4), 0);
        Check.dueShares(x, 0, 0, 0, 0, 0, 0, 0, 3);
        x.end(5);
        Check.dueThrow("all ended", ArithmeticException.class, () -> x.bound(0, 3, 4));
        Check.due("total(0)", x.total(0), 1);
    }

    private static void promise3WeightsBehindOrder() {
        Check.promise(3, "(asked behind that)");
        LentBounds x = Make.weighed(0, 0, 0, 0, 0, 0);
        Check.dueThrow("order", WRONG, () -> x.bound(1, 0, 0));
        Check.dueThrow("too great", WRONG, () -> x.bound(0, 0, MOST + 1));
        Make.endAll(x, 0, 1, 2, 3, 4, 5);
        Check.dueThrow("order, all ended", WRONG, () -> x.bound(1, 0, 0));
        Check.dueThrow("all right but the weights", ArithmeticException.class, () -> x.bound(0, 0, 0));
    }

    private static LentBounds sixBounds() {
        LentBounds x = new LentBounds();
        for (int bound = 0; bound < 6; bound++) {
            Check.due("bound", x.bound(0, 6, 12), bound);
        }
        return x;
    }

    private static void promise3SixAre() {
        Check.promise(3, "IllegalStateException (asked behind these): there are 6");
        LentBounds x = sixBounds();
        String before = State.of(x);
        Check.dueThrow("a seventh", IllegalStateException.class, () -> x.bound(0, 6, 12));
        Check.dueThrow("again", IllegalStateException.class, () -> x.bound(0, 0, 0));
        Check.dueSame("refused bounds", x, before);
        Check.due("total(0)", x.total(0), 6);
    }

    private static void promise3SixBehindTheOthers() {
        Check.promise(3, "(asked behind these)");
        LentBounds x = sixBounds();
        Check.dueThrow("order", WRONG, () -> x.bound(1, 0, 0));
        Check.dueThrow("too great", WRONG, () -> x.bound(0, 0, MOST + 1));
        for (int person = 0; person < 6; person++) {
            x.weigh(person, 0);
        }
        Check.dueThrow("weights", ArithmeticException.class, () -> x.bound(0, 0, 0));
        x.weigh(3, 1);
        Check.dueThrow("all right but the number", IllegalStateException.class, () -> x.bound(0, 0, 0));
        Make.endAll(x, 0, 1, 2, 3, 4, 5);
        Check.dueThrow("all ended", ArithmeticException.class, () -> x.bound(0, 0, 0));
    }

    private static void promise12Share() {
        Check.promise(12, "A SHARE (side 0 DOWN, 1 UP) of a PERSON");
        LentBounds x = Make.tens();
        x.take(0, 4, 1);
        Check.dueShares(x, 0, 0, 10, 10, 10, 10, 9, 10);
        Check.dueShares(x, 0, 1, 20, 20, 20, 20, 21, 20);
        x.end(4);
        Check.due("of an ended one", x.share(0, 0, 4), 9);
        Make.vouchAll(x, 4);
        Check.due("of a recovered one", x.share(0, 0, 4), 0);
    }

    private static void promise12NoneSuch() {
        Check.promise(12, "NoSuchElementException: there is none such");
        LentBounds x = Make.tens();
        for (int bound : Make.NO_BOUNDS) {
            Check.dueThrow("bound " + bound, NO_SUCH, () -> x.share(bound, 0, 0));
        }
        for (int side : Make.NO_SIDES) {
            Check.dueThrow("side " + side, NO_SUCH, () -> x.share(0, side, 0));
        }
        for (int person : Make.NO_PEOPLE) {
            Check.dueThrow("person " + person, NO_SUCH, () -> x.share(0, 0, person));
        }
        Check.due("the last one", x.share(0, 1, 5), 20);
    }

    private static void promise13Value() {
        LentBounds x = Make.alone(-4, 6, 14);
        x.take(0, 0, -2);
        Check.promise(13, "Of a BOUND, what 0: its value");
        Check.due("sum(0, 0)", x.sum(0, 0), 8);
        Check.promise(13, "1: FLOOR");
        Check.due("sum(0, 1)", x.sum(0, 1), -4);
        Check.promise(13, "2: CEILING");
        Check.due("sum(0, 2)", x.sum(0, 2), 14);
    }

    private static void promise13SharesInAll() {
        Check.promise(13, "3, 4: SHARES DOWN, UP of those that are not ENDED, in all");
        LentBounds x = Make.tens();
        Check.due("sum(0, 3)", x.sum(0, 3), 60);
        Check.due("sum(0, 4)", x.sum(0, 4), 120);
        x.take(0, 0, 3);
        x.end(0);
        Check.due("sum(0, 3) without 0", x.sum(0, 3), 50);
        Check.due("sum(0, 4) without 0", x.sum(0, 4), 100);
        x.lend(0, 0, 1, 2, 4);
        x.lend(0, 1, 1, 2, 5);
        Check.due("sum(0, 3) without a row", x.sum(0, 3), 46);
        Check.due("sum(0, 4) without a row", x.sum(0, 4), 95);
        Make.endAll(x, 1, 2, 3, 4, 5);
        Check.due("sum(0, 3) of nobody", x.sum(0, 3), 0);
        Check.due("sum(0, 4) of nobody", x.sum(0, 4), 0);
    }

    private static void promise13UnderWay() {
        Check.promise(13, "5, 6: DOWN, UP under way "
                + "(in ROWS that are neither DELIVERED nor LOST, to one that is not ENDED)");
        LentBounds x = Make.tens();
        x.bound(0, 60, 180);
        for (int n = 0; n < 4; n++) {
            x.lend(0, 0, 0, 1 + n, 1 + n);
            x.lend(0, 1, 0, 1 + n, 2 + n);
        }
        Check.dueSums(x, 0, 50, 106, 10, 14, 0, 0);
        Check.dueSums(x, 1, 60, 120, 0, 0, 0, 0);
        x.deliver(1);
        x.deliver(2);
        Check.dueSums(x, 0, 51, 108, 9, 12, 0, 0);
        x.lose(3);
        x.lose(4);
        Check.dueSums(x, 0, 51, 108, 7, 9, 2, 3);
        x.end(3);
        Check.dueSums(x, 0, 41, 88, 4, 5, 15, 27);
        x.end(0);
        Check.due("from an ended one", x.sum(0, 5), 4);
        Check.due("from an ended one", x.sum(0, 6), 5);
    }

    private static void promise13Stuck() {
        Check.promise(13, "7, 8: STUCK DOWN, UP");
        LentBounds x = Make.tens();
        x.lend(0, 0, 0, 1, 2);
        x.lend(0, 1, 0, 2, 3);
        Check.dueSums(x, 0, 58, 117, 2, 3, 0, 0);
        x.lose(1);
        Check.dueSums(x, 0, 58, 117, 0, 3, 2, 0);
        x.end(2);
        Check.dueSums(x, 0, 48, 97, 0, 0, 12, 23);
        x.lose(2);
        Check.dueSums(x, 0, 48, 97, 0, 0, 12, 23);
        x.end(1);
        Check.dueSums(x, 0, 38, 77, 0, 0, 22, 43);
        Make.vouchAll(x, 1);
        Check.dueSums(x, 0, 50, 97, 0, 0, 10, 23);
        Make.vouchAll(x, 2);
        Check.dueSums(x, 0, 60, 120, 0, 0, 0, 0);
    }

    private static void promise13NoneSuch() {
        Check.promise(13, "NoSuchElementException: there is none such");
        LentBounds x = Make.tens();
        for (int bound : Make.NO_BOUNDS) {
            for (int what = -1; what < 10; what++) {
                int k = what;
                Check.dueThrow("sum(" + bound + ", " + what + ")", NO_SUCH, () -> x.sum(bound, k));
            }
        }
    }

    private static void promise13NoSuchWhat() {
        Check.promise(13, "or no such what");
        LentBounds x = Make.tens();
        for (int what : new int[] {-1, 9, 10, Integer.MIN_VALUE, Integer.MAX_VALUE}) {
            Check.dueThrow("sum(0, " + what + ")", NO_SUCH, () -> x.sum(0, what));
        }
        Check.due("sum(0, 8)", x.sum(0, 8), 0);
    }
}
