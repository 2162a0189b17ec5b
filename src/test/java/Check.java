/** What the tests share: compares answers, and tells at the end whether all were as due. */
final class Check {
    private static int wrong = 0;
    private static int checked = 0;

    private Check() {
    }

    interface Call {
        long answer();
    }

    static void due(String call, long got, long want) {
        checked++;
        if (got != want) {
            wrong++;
            System.out.println(call + " answered " + got + ", due is " + want);
        }
    }

    static void due(String call, boolean got, boolean want) {
        due(call, got ? 1 : 0, want ? 1 : 0);
    }

    static void dueText(String call, String got, String want) {
        checked++;
        if (!got.equals(want)) {
            wrong++;
            System.out.println(call + " answered " + got + ", due is " + want);
        }
    }

    /** A call that has to throw just this exception and to leave everything as it is. */
    static void refused(ShaftPlumb x, String call, Class<?> want, Call asked) {
        long before = x.checksum();
        dueText(call, outcome(asked), "throws " + want.getSimpleName());
        due("the checksum behind the refused " + call, x.checksum(), before);
    }

    static void index(ShaftPlumb x, String call, Call asked) {
        refused(x, call, IndexOutOfBoundsException.class, asked);
    }

    static void argument(ShaftPlumb x, String call, Call asked) {
        refused(x, call, IllegalArgumentException.class, asked);
    }

    static void state(ShaftPlumb x, String call, Call asked) {
        refused(x, call, IllegalStateException.class, asked);
    }

    /** The answer of a call, or the name of the exception that it throws, as a text. */
    static String outcome(Call asked) {
        try {
            return Long.toString(asked.answer());
        } catch (RuntimeException e) {
            return "throws " + e.getClass().getSimpleName();
        }
    }

    static void end(String test) {
        System.out.println(test + ": " + checked + " checks, " + wrong + " not as due");
        if (wrong != 0 || checked == 0) {
            System.exit(1);
        }
    }
}
