import java.math.BigInteger;
import java.util.ArrayList;
import java.util.List;
import java.util.NoSuchElementException;
import java.util.Random;

/** Long runs of calls by the same seeds each time, held against a second, plainer reading of the document. */
public final class ModelTest {
    private static final int RUNS = 3000;
    private static final int CALLS = 512;
    /** A unit with which rooms and takes come near to the greatest ones, and go beyond. */
    private static final long HUGE = 43478260869L;

    public static void main(String[] args) {
        for (int run = 0; run < RUNS; run++) {
            play(run);
        }
        Check.finish();
    }

    private static void play(int run) {
        Random dice = new Random(run);
        LentBounds x = new LentBounds();
        Model m = new Model();
        int endsOneIn = run % 3 == 0 ? 400 : 40;
        long unit = run % 5 == 0 ? HUGE : 1;
        for (int call = 0; call < CALLS; call++) {
            String name = "run " + run + " call " + call + " ";
            act(name, dice, x, m, endsOneIn, unit);
            if (call % 16 == 0 || call == CALLS - 1) {
                look(name, x, m);
            }
        }
    }

    private static void act(String name, Random dice, LentBounds x, Model m, int endsOneIn, long unit) {
        int person = number(dice, 6);
        int other = number(dice, 6);
        int bound = number(dice, 4);
        int side = number(dice, 2);
        int row = number(dice, m.rows.size() + 2);
        long v = amount(dice) * unit;
        if (dice.nextInt(endsOneIn) == 0) {
            Check.due(name + "end", x.end(person), m.end(person));
            return;
        }
        switch (dice.nextInt(12)) {
            case 0 -> {
                long weight = dice.nextInt(4) == 0 ? dice.nextInt(1000002) : number(dice, 4);
                Check.due(name + "weigh", x.weigh(person, weight), m.weigh(person, weight));
            }
            case 1 -> {
                long floor = -amount(dice) * unit;
                long ceiling = amount(dice) * (dice.nextInt(9) == 0 ? 10000000000L : unit);
                Check.due(name + "bound", made(x, floor, 0, ceiling), m.bound(floor, 0, ceiling));
            }
            case 2 -> {
                boolean on = dice.nextInt(3) != 0;
                Check.due(name + "patient", x.patient(person, on), m.patient(person, on));
            }
            case 3, 4, 5 -> Check.due(name + "take", x.take(bound, person, v), m.take(bound, person, v));
            case 6 -> Check.due(name + "lend", x.lend(bound, side, person, other, v), m.lend(bound, side, person, other, v));
            case 7 -> Check.due(name + "ask", x.ask(bound, side, person, v), m.ask(bound, side, person, v));
            case 8, 9 -> Check.due(name + "deliver", x.deliver(row), m.deliver(row));
            case 10 -> Check.due(name + "lose", x.lose(row), m.lose(row));
            default -> Check.due(name + "vouch", x.vouch(person, other), m.vouch(person, other));
        }
    }

    /** Mostly 0 .. most - 1, now and then just beside. */
    private static int number(Random dice, int most) {
        return dice.nextInt(20) == 0 ? dice.nextInt(most + 3) - 1 : dice.nextInt(Math.max(most, 1));
    }

    private static long amount(Random dice) {
        return switch (dice.nextInt(12)) {
            case 0 -> -dice.nextInt(30);
            case 1 -> dice.nextInt(200);
            case 2 -> dice.nextLong();
            default -> dice.nextInt(30) - 8;
        };
    }

    /** -2, -3, -4 stand for the three exceptions, here and in the model. */
    private static long made(LentBounds x, long floor, long value, long ceiling) {
        try {
            return x.bound(floor, value, ceiling);
        } catch (IllegalArgumentException e) {
            return -2;
        } catch (ArithmeticException e) {
            return -3;
        } catch (IllegalStateException e) {
            return -4;
        }
    }

    private static void look(String name, LentBounds x, Model m) {
        Check.due(name + "total(0)", x.total(0), m.floors.size());
        Check.due(name + "total(1)", x.total(1), m.rows.size());
        Check.due(name + "total(2)", x.total(2), m.done);
        Check.due(name + "total(3)", x.total(3), m.refused);
        for (int bound = 0; bound < m.floors.size(); bound++) {
            lookAtBound(name, x, m, bound);
        }
        for (int person = 0; person < 6; person++) {
            lookAtPerson(name, x, m, person);
        }
        for (int row = 1; row <= m.rows.size(); row++) {
            Model.Row due = m.rows.get(row - 1);
            int[] answers = {due.bound, due.side, due.from, due.to, due.state, due.times};
            for (int what = 0; what < 6; what++) {
                Check.due(name + "row(" + row + ", " + what + ")", x.row(row, what), answers[what]);
            }
            Check.due(name + "lent(" + row + ")", x.lent(row), due.v);
        }
    }

    private static void lookAtBound(String name, LentBounds x, Model m, int bound) {
        for (int what = 0; what < 9; what++) {
            Check.due(name + "sum(" + bound + ", " + what + ")", x.sum(bound, what), m.sum(bound, what));
        }
        Check.due(name + "room down", x.sum(bound, 3) + x.sum(bound, 5) + x.sum(bound, 7), x.sum(bound, 0) - x.sum(bound, 1));
        Check.due(name + "room up", x.sum(bound, 4) + x.sum(bound, 6) + x.sum(bound, 8), x.sum(bound, 2) - x.sum(bound, 0));
        for (int person = 0; person < 6; person++) {
            for (int side = 0; side < 2; side++) {
                Check.due(name + "share", x.share(bound, side, person), m.shares.get(bound)[side][person]);
            }
        }
    }

    private static void lookAtPerson(String name, LentBounds x, Model m, int person) {
        Check.due(name + "person 0", x.person(person, 0), m.state[person]);
        Check.due(name + "person 1", x.person(person, 1), m.patient[person] ? 1 : 0);
        Check.due(name + "person 2", x.person(person, 2), m.waits.get(person).size());
        Check.due(name + "person 3", x.person(person, 3), m.told.get(person).size());
        for (int k = 0; k < 8; k++) {
            long got = Long.MIN_VALUE;
            try {
                got = x.waits(person, k);
            } catch (NoSuchElementException e) {
                got = Long.MIN_VALUE;
            }
            List<long[]> all = m.waits.get(person);
            Check.due(name + "waits", got, k < all.size() ? all.get(k)[1] : Long.MIN_VALUE);
        }
    }

    /** Nothing is kept that can be told from the rest: sums are added up anew, stuck is what is nowhere else. */
    private static final class Model {
        static final BigInteger MOST = BigInteger.TEN.pow(12);

        final List<Long> floors = new ArrayList<>();
        final List<Long> ceilings = new ArrayList<>();
        final List<long[][]> shares = new ArrayList<>();
        final List<Long> values = new ArrayList<>();
        final List<Row> rows = new ArrayList<>();
        final List<List<long[]>> waits = new ArrayList<>();
        final List<List<Integer>> told = new ArrayList<>();
        final long[] weights = {1, 1, 1, 1, 1, 1};
        final boolean[] patient = new boolean[6];
        final int[] state = new int[6];
        int done;
        int refused;

        static final class Row {
            int bound;
            int side;
            int from;
            int to;
            int state;
            int times;
            long v;
            boolean back;
        }

        Model() {
            for (int person = 0; person < 6; person++) {
                waits.add(new ArrayList<>());
                told.add(new ArrayList<>());
            }
        }

        boolean well(int person) {
            return person >= 0 && person <= 5 && state[person] == 0;
        }

        List<Integer> wellOnes() {
            List<Integer> all = new ArrayList<>();
            for (int person = 0; person < 6; person++) {
                if (well(person)) {
                    all.add(person);
                }
            }
            return all;
        }

        boolean weigh(int person, long weight) {
            boolean can = well(person) && 0 <= weight && weight <= 1000000;
            if (can) {
                weights[person] = weight;
            }
            return can;
        }

        long[] split(long room, long[] by) {
            BigInteger all = BigInteger.ZERO;
            for (long weight : by) {
                all = all.add(BigInteger.valueOf(weight));
            }
            long[] parts = new long[6];
            BigInteger[] rests = new BigInteger[6];
            long left = room;
            for (int person = 0; person < 6; person++) {
                BigInteger[] both = BigInteger.valueOf(room).multiply(BigInteger.valueOf(by[person])).divideAndRemainder(all);
                parts[person] = both[0].longValueExact();
                rests[person] = both[1];
                left -= parts[person];
            }
            List<Integer> turn = new ArrayList<>(List.of(0, 1, 2, 3, 4, 5));
            turn.sort((a, b) -> rests[b].compareTo(rests[a]));
            for (int k = 0; k < left; k++) {
                parts[turn.get(k)]++;
            }
            return parts;
        }

        long bound(long floor, long value, long ceiling) {
            BigInteger down = BigInteger.valueOf(value).subtract(BigInteger.valueOf(floor));
            BigInteger up = BigInteger.valueOf(ceiling).subtract(BigInteger.valueOf(value));
            if (down.signum() < 0 || up.signum() < 0 || down.max(up).compareTo(MOST) > 0) {
                return -2;
            }
            long[] by = new long[6];
            long all = 0;
            for (int person : wellOnes()) {
                by[person] = weights[person];
                all += weights[person];
            }
            if (all == 0) {
                return -3;
            }
            if (floors.size() == 6) {
                return -4;
            }
            floors.add(floor);
            values.add(value);
            ceilings.add(ceiling);
            shares.add(new long[][] {split(down.longValueExact(), by), split(up.longValueExact(), by)});
            return floors.size() - 1;
        }

        boolean patient(int person, boolean on) {
            if (!well(person) || patient[person] == on) {
                return false;
            }
            patient[person] = on;
            return true;
        }

        boolean isBound(int bound) {
            return bound >= 0 && bound < floors.size();
        }

        boolean doIt(int bound, int person, long v) {
            long[][] of = shares.get(bound);
            if (of[0][person] - v < 0 || of[1][person] + v < 0) {
                return false;
            }
            of[0][person] -= v;
            of[1][person] += v;
            values.set(bound, values.get(bound) - v);
            done++;
            return true;
        }

        int take(int bound, int person, long v) {
            if (!isBound(bound) || !well(person) || v == 0 || BigInteger.valueOf(v).abs().compareTo(MOST) > 0) {
                return -1;
            }
            if (doIt(bound, person, v)) {
                return 1;
            }
            if (!patient[person] || waits.get(person).size() == 8) {
                refused++;
                return 0;
            }
            waits.get(person).add(new long[] {bound, v});
            return 2;
        }

        int lend(int bound, int side, int from, int to, long v) {
            if (!isBound(bound) || side < 0 || side > 1 || !well(from) || !well(to) || from == to || v < 1) {
                return -1;
            }
            if (shares.get(bound)[side][from] < v || rows.size() == 200) {
                return 0;
            }
            Row row = new Row();
            row.bound = bound;
            row.side = side;
            row.from = from;
            row.to = to;
            row.v = v;
            rows.add(row);
            shares.get(bound)[side][from] -= v;
            return rows.size();
        }

        int ask(int bound, int side, int person, long v) {
            if (!isBound(bound) || side < 0 || side > 1 || !well(person) || v < 1) {
                return -1;
            }
            List<Integer> others = wellOnes();
            others.remove(Integer.valueOf(person));
            others.sort((a, b) -> Long.compare(shares.get(bound)[side][b], shares.get(bound)[side][a]));
            if (others.isEmpty() || shares.get(bound)[side][others.get(0)] == 0) {
                return 0;
            }
            int from = others.get(0);
            return lend(bound, side, from, person, Math.min(v, shares.get(bound)[side][from]));
        }

        void come(int bound, int side, int person, long v) {
            shares.get(bound)[side][person] += v;
            List<long[]> all = waits.get(person);
            while (v > 0 && !all.isEmpty() && doIt((int) all.get(0)[0], person, all.get(0)[1])) {
                all.remove(0);
            }
        }

        int deliver(int number) {
            if (number < 1 || number > rows.size() || rows.get(number - 1).state == 2) {
                return -1;
            }
            Row row = rows.get(number - 1);
            row.times++;
            if (row.times > 1) {
                return 0;
            }
            row.state = 1;
            come(row.bound, row.side, row.to, row.v);
            return 1;
        }

        boolean lose(int number) {
            if (number < 1 || number > rows.size() || rows.get(number - 1).state != 0) {
                return false;
            }
            rows.get(number - 1).state = 2;
            return true;
        }

        boolean end(int person) {
            if (!well(person)) {
                return false;
            }
            state[person] = 1;
            waits.get(person).clear();
            for (int gone = 0; gone < 6; gone++) {
                tryRecover(gone);
            }
            return true;
        }

        boolean tryRecover(int gone) {
            List<Integer> well = wellOnes();
            if (state[gone] != 1 || well.isEmpty() || !told.get(gone).containsAll(well)) {
                return false;
            }
            state[gone] = 2;
            long[] by = new long[6];
            for (int person : well) {
                by[person] = 1;
            }
            for (int bound = 0; bound < floors.size(); bound++) {
                for (int side = 0; side < 2; side++) {
                    long room = shares.get(bound)[side][gone];
                    shares.get(bound)[side][gone] = 0;
                    for (Row row : rows) {
                        if (row.bound == bound && row.side == side && (row.from == gone || row.to == gone) && row.state != 1) {
                            room += row.back ? 0 : row.v;
                            row.back = true;
                            row.state = 2;
                        }
                    }
                    long[] parts = split(room, by);
                    for (int person : well) {
                        come(bound, side, person, parts[person]);
                    }
                }
            }
            return true;
        }

        int vouch(int person, int ended) {
            if (!well(person) || ended < 0 || ended > 5 || well(ended)) {
                return -1;
            }
            if (told.get(ended).contains(person) || state[ended] == 2) {
                return 0;
            }
            told.get(ended).add(person);
            return tryRecover(ended) ? 2 : 1;
        }

        long sum(int bound, int what) {
            if (what == 0) {
                return values.get(bound);
            }
            if (what <= 2) {
                return what == 1 ? floors.get(bound) : ceilings.get(bound);
            }
            int side = (what - 3) % 2;
            long own = 0;
            for (int person : wellOnes()) {
                own += shares.get(bound)[side][person];
            }
            long underWay = 0;
            for (Row row : rows) {
                if (row.bound == bound && row.side == side && row.state == 0 && well(row.to)) {
                    underWay += row.v;
                }
            }
            if (what <= 4) {
                return own;
            }
            long room = side == 0 ? values.get(bound) - floors.get(bound) : ceilings.get(bound) - values.get(bound);
            return what <= 6 ? underWay : room - own - underWay;
        }
    }
}
