/** Counts what a test checks, and prints what is not as it is due. */
final class Check {
    interface Call {
        void make();
    }

    private static int made = 0;
    private static int wrong = 0;

    private Check() {
    }

    static void that(String what, long got, long due) {
        note(got == due, what, Long.toString(got), Long.toString(due));
    }

    static void that(String what, boolean got, boolean due) {
        note(got == due, what, Boolean.toString(got), Boolean.toString(due));
    }

    static void that(String what, String got, String due) {
        note(got.equals(due), what, got, due);
    }

    /** The call throws just this exception, not a kind of it that the machine throws, and changes nothing. */
    static void fails(RooftopCats x, String what, Class<? extends RuntimeException> due, Call call) {
        String before = Look.at(x);
        String got = "nothing";
        try {
            call.make();
        } catch (RuntimeException e) {
            got = e.getClass().getSimpleName();
        }
        that(what + " throws", got, due.getSimpleName());
        that(what + " leaves all as it was", Look.at(x), before);
    }

    static void noPlace(RooftopCats x, String what, Call call) {
        fails(x, what, IndexOutOfBoundsException.class, call);
    }

    static void badArgument(RooftopCats x, String what, Call call) {
        fails(x, what, IllegalArgumentException.class, call);
    }

    static void refused(RooftopCats x, String what, Call call) {
        fails(x, what, IllegalStateException.class, call);
    }

    /** The numbers just outside of 0 to count - 1, and the farthest ones. */
    static int[] outside(int count) {
        return outside(0, count - 1);
    }

    /** The numbers just outside of a range, and the farthest ones. */
    static int[] outside(int least, int most) {
        return new int[] {least - 1, most + 1, Integer.MIN_VALUE, Integer.MAX_VALUE};
    }

    private static void note(boolean right, String what, String got, String due) {
        made++;
        if (!right) {
            wrong++;
            System.out.println(what + ": got " + got + ", due is " + due);
        }
    }

    static void end(String test) {
        System.out.println(test + ": " + made + " checks, " + wrong + " wrong");
        if (wrong > 0 || made == 0) {
            System.exit(1);
        }
    }
}
