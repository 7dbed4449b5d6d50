/** Compares answers with those that are due; every test ends by finish(). */
final class Check {
    interface Call {
        void run();
    }

    private static int done;
    private static int wrong;
    private static String heading = "";

    private Check() {
    }

    /** The words of the document that the checks behind this call hold to. */
    static void sentence(int promise, String words) {
        heading = "promise " + promise + " (" + words + "): ";
    }

    static void same(String what, long got, long due) {
        count(got == due, what, String.valueOf(got), String.valueOf(due));
    }

    static void same(String what, boolean got, boolean due) {
        count(got == due, what, String.valueOf(got), String.valueOf(due));
    }

    static void same(String what, String got, String due) {
        count(got.equals(due), what, got, due);
    }

    static void refusesArgument(String what, Call call) {
        same(what, thrownBy(call), "IllegalArgumentException");
    }

    static void refusesState(String what, Call call) {
        same(what, thrownBy(call), "IllegalStateException");
    }

    /** The simple name of what the call throws, or "nothing". */
    static String thrownBy(Call call) {
        try {
            call.run();
            return "nothing";
        } catch (RuntimeException e) {
            return e.getClass().getSimpleName();
        }
    }

    static void finish() {
        System.out.println((done - wrong) + " answers as due, " + wrong + " not");
        if (wrong > 0 || done == 0) {
            System.exit(1);
        }
    }

    private static void count(boolean right, String what, String got, String due) {
        done++;
        if (!right) {
            wrong++;
            System.out.println(heading + what + " answered " + got + ", due is " + due);
        }
    }
}
