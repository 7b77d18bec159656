import java.util.NoSuchElementException;
import java.util.Random;

/** Whatever the arguments and the state: a call throws what the document names, and nothing else. */
public final class HostileTest {
    private static final int[] INTS = {
        Integer.MIN_VALUE, Integer.MIN_VALUE + 1, -201, -7, -2, -1, 0, 1, 2, 3, 4, 5, 6, 7, 8, 9, 199, 200, 201, 255,
        65536, Integer.MAX_VALUE - 1, Integer.MAX_VALUE,
    };
    private static final long[] LONGS = {
        Long.MIN_VALUE, Long.MIN_VALUE + 1, -2000000000000L, -1000000000001L, -1000000000000L, -4294967296L, -9, -1, 0, 1,
        2, 9, 1000000, 1000001, 4294967297L, 1000000000000L, 1000000000001L, Long.MAX_VALUE - 1, Long.MAX_VALUE,
    };

    public static void main(String[] args) {
        for (int run = 0; run < 500; run++) {
            Random dice = new Random(run);
            LentBounds x = new LentBounds();
            for (int call = 0; call < 512; call++) {
                String wrong = unexpected(dice, x);
                Check.due("run " + run + " call " + call + " " + wrong, wrong.isEmpty(), true);
            }
        }
        Check.finish();
    }

    private static int anInt(Random dice) {
        return dice.nextInt(3) == 0 ? INTS[dice.nextInt(INTS.length)] : dice.nextInt(6);
    }

    private static long aLong(Random dice) {
        return LONGS[dice.nextInt(LONGS.length)];
    }

    /** An empty text if the call answered, or threw what it may. */
    private static String unexpected(Random dice, LentBounds x) {
        int which = dice.nextInt(17);
        int a = anInt(dice);
        int b = anInt(dice);
        int c = anInt(dice);
        int d = anInt(dice);
        long v = aLong(dice);
        try {
            call(x, which, new int[] {a, b, c, d}, new long[] {v, aLong(dice), aLong(dice)});
            return "";
        } catch (RuntimeException e) {
            Class<?> kind = e.getClass();
            boolean ofBound = kind == IllegalArgumentException.class || kind == ArithmeticException.class
                    || kind == IllegalStateException.class;
            boolean fits = which == 1 ? ofBound : which >= 10 && which <= 13 && kind == NoSuchElementException.class;
            return fits ? "" : "call " + which + " threw " + e;
        }
    }

    private static void call(LentBounds x, int which, int[] i, long[] v) {
        switch (which) {
            case 0 -> x.weigh(i[0], v[0]);
            case 1 -> x.bound(v[0], v[1], v[2]);
            case 2 -> x.patient(i[0], i[1] > 0);
            case 3 -> x.take(i[0], i[1], v[0]);
            case 4 -> x.lend(i[0], i[1], i[2], i[3], v[0]);
            case 5 -> x.ask(i[0], i[1], i[2], v[0]);
            case 6 -> x.deliver(i[0]);
            case 7 -> x.lose(i[0]);
            case 8 -> x.end(i[0] + 5 * (i[1] & 3));
            case 9 -> x.vouch(i[0], i[1]);
            case 10 -> x.share(i[0], i[1], i[2]);
            case 11 -> x.sum(i[0], i[1]);
            case 12 -> x.lent(i[0]);
            case 13 -> x.waits(i[0], i[1]);
            case 14 -> x.row(i[0], i[1]);
            case 15 -> x.person(i[0], i[1]);
            default -> x.total(i[0]);
        }
    }
}
