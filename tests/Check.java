/** Counts answers that are due and answers that are not; each test ends with finish(). */
final class Check {
    private static int passed = 0;
    private static int failed = 0;

    private Check() {
    }

    interface Call {
        void run();
    }

    static void same(String what, long got, long due) {
        count(what, got == due, String.valueOf(got), String.valueOf(due));
    }

    static void same(String what, double got, double due) {
        count(what, Double.compare(got, due) == 0, String.valueOf(got), String.valueOf(due));
    }

    static void same(String what, boolean got, boolean due) {
        count(what, got == due, String.valueOf(got), String.valueOf(due));
    }

    static void same(String what, String got, String due) {
        count(what, got.equals(due), got, due);
    }

    /** The call throws just that kind, and the mill answers as before (RefusedTest asks it more). */
    static void raises(TideMill mill, String what, Class<? extends RuntimeException> kind, Call call) {
        String before = Portrait.brief(mill);
        same(what, thrownBy(call), kind.getSimpleName());
        same(what + " changes nothing", Portrait.brief(mill), before);
    }

    static String thrownBy(Call call) {
        try {
            call.run();
            return "nothing";
        } catch (RuntimeException e) {
            return e.getClass().getSimpleName();
        }
    }

    static void finish(String test) {
        System.out.println(test + ": " + passed + " passed, " + failed + " failed");
        if (failed > 0 || passed == 0) {
            System.exit(1);
        }
    }

    private static void count(String what, boolean isDue, String got, String due) {
        if (isDue) {
            passed++;
            return;
        }
        failed++;
        System.out.println(what + " answered " + got + ", due is " + due);
    }
}
