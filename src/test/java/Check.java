/** Counts and prints the calls whose answer is not the one that is due. */
final class Check {
    private static int asked = 0;
    private static int wrong = 0;

    private Check() {
    }

    static void due(String call, long got, long want) {
        asked++;
        if (got != want) {
            wrong++;
            System.out.println(call + " answered " + got + ", due is " + want);
        }
    }

    static void due(String call, boolean got, boolean want) {
        due(call, got ? 1L : 0L, want ? 1L : 0L);
    }

    static void dueThrow(String call, Class<? extends RuntimeException> want, Runnable run) {
        asked++;
        String got = "nothing";
        try {
            run.run();
        } catch (RuntimeException e) {
            got = e.getClass().getName();
        }
        if (!got.equals(want.getName())) {
            wrong++;
            System.out.println(call + " threw " + got + ", due is " + want.getName());
        }
    }

    static void dueShares(LentBounds x, int bound, int side, long... want) {
        for (int person = 0; person < want.length; person++) {
            due("share(" + bound + ", " + side + ", " + person + ")", x.share(bound, side, person), want[person]);
        }
    }

    /** Sums 3 to 8 of a bound: shares down, up, under way down, up, stuck down, up. */
    static void dueSums(LentBounds x, int bound, long... want) {
        for (int k = 0; k < want.length; k++) {
            due("sum(" + bound + ", " + (k + 3) + ")", x.sum(bound, k + 3), want[k]);
        }
    }

    static void finish() {
        System.out.println(wrong == 0 ? asked + " answers are as due" : wrong + " of " + asked + " answers are not as due");
        if (wrong != 0) {
            System.exit(1);
        }
    }
}
