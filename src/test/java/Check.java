/** What the tests share: answers beside what is due, exceptions by their exact class. */
final class Check {
    /** A call on the class under test; a boolean counts 1 or 0. */
    interface Call {
        long answer();
    }

    /** Such a call, made on the object that it is given. */
    interface CallOn {
        long answer(PanelForms p);
    }

    private static int wrong = 0;
    private static int looked = 0;
    private static String heading = "";

    private Check() {
    }

    /** What is told ahead of each wrong answer from now on. */
    static void under(String text) {
        heading = text;
    }

    static int looked() {
        return looked;
    }

    static long one(boolean b) {
        return b ? 1 : 0;
    }

    static void due(String what, long got, long want) {
        same(what, Long.toString(got), Long.toString(want));
    }

    static void yes(String what, boolean got) {
        due(what, one(got), 1);
    }

    static void no(String what, boolean got) {
        due(what, one(got), 0);
    }

    static void index(String what, Call call) {
        same(what, told(call), "throws.IndexOutOfBoundsException");
    }

    static void argument(String what, Call call) {
        same(what, told(call), "throws.IllegalArgumentException");
    }

    static void state(String what, Call call) {
        same(what, told(call), "throws.IllegalStateException");
    }

    /** The exact class counts: what the machine throws by itself is a class below, and so never the same. */
    static String told(Call call) {
        try {
            return Long.toString(call.answer());
        } catch (RuntimeException e) {
            return "throws." + e.getClass().getSimpleName();
        }
    }

    static void same(String what, String got, String want) {
        looked++;
        if (!got.equals(want)) {
            wrong++;
            if (wrong <= 40) {
                System.out.println(heading + what + " answered " + got + ", due is " + want);
            }
        }
    }

    static void end() {
        System.out.println(wrong == 0 ? looked + " answers are as due" : wrong + " answers are not as due");
        if (wrong != 0) {
            System.exit(1);
        }
    }
}
