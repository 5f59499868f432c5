/** What the tests share: it counts and prints the answers that are not the ones that are due. */
final class Check {
    interface Call {
        Object run();
    }

    private static final long MOST_MILLISECONDS = 600_000L;

    private static int wrong = 0;
    private static int asked = 0;

    static {
        Thread watch = new Thread(Check::haltInTheEnd);
        watch.setDaemon(true);
        watch.start();
    }

    private Check() {
    }

    /** A call that fails to end must fail the test, too. */
    private static void haltInTheEnd() {
        try {
            Thread.sleep(MOST_MILLISECONDS);
        } catch (InterruptedException e) {
            return;
        }
        System.out.println("the test does not end");
        Runtime.getRuntime().halt(1);
    }

    static void due(String what, Call call, Object want) {
        asked++;
        String got = outcome(call);
        if (!got.equals(String.valueOf(want))) {
            wrong++;
            System.out.println(what + " answered " + got + ", due is " + want);
        }
    }

    static void fails(String what, Call call, Class<? extends RuntimeException> want) {
        asked++;
        String got = outcome(call);
        if (!got.equals("throws " + want.getName())) {
            wrong++;
            System.out.println(what + " answered " + got + ", due is " + want.getName());
        }
    }

    static void isTrue(String what, boolean holds) {
        asked++;
        if (!holds) {
            wrong++;
            System.out.println("does not hold: " + what);
        }
    }

    /** An answer, or the very class of the exception, as a text. */
    static String outcome(Call call) {
        try {
            return String.valueOf(call.run());
        } catch (RuntimeException e) {
            return "throws " + e.getClass().getName();
        }
    }

    static void feed(VisitBooking desk, String text) {
        for (int place = 0; place < text.length(); place++) {
            desk.feed(text.charAt(place));
        }
    }

    /** Feeds a text and performs it. */
    static Object perform(VisitBooking desk, String text) {
        feed(desk, text);
        return desk.perform();
    }

    static void end() {
        System.out.println(asked + " answers, " + wrong + " of them wrong");
        if (wrong != 0 || asked == 0) {
            System.exit(1);
        }
    }
}
