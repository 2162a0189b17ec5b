import java.util.function.Supplier;

/** What the tests share: compares answers, and tells at the end whether all were as due. */
final class Check {
    static final Class<?> INDEX = IndexOutOfBoundsException.class;
    static final Class<?> ARGUMENT = IllegalArgumentException.class;
    static final Class<?> STATE = IllegalStateException.class;

    private static int wrong = 0;
    private static int checked = 0;
    private static int sentences = 0;
    private static String sentence = "";

    private Check() {
    }

    interface Call {
        long answer();
    }

    interface Asked {
        long of(ShaftPlumb x);
    }

    interface Valued {
        long of(ShaftPlumb x, int value);
    }

    // ---- answers

    static void due(String call, long got, long want) {
        dueText(call, Long.toString(got), Long.toString(want));
    }

    static void due(String call, boolean got, boolean want) {
        due(call, got ? 1 : 0, want ? 1 : 0);
    }

    static void dueText(String call, String got, String want) {
        checked++;
        if (!got.equals(want)) {
            wrong++;
            System.out.println(call + " answered " + got + ", due is " + want);
        }
    }

    /** The answer of a call, or the name of the exception that it throws, as a text. */
    static String outcome(Call asked) {
        try {
            return Long.toString(asked.answer());
        } catch (RuntimeException e) {
            return "throws " + e.getClass().getSimpleName();
        }
    }

    // ---- sentences of the document

    /** Names the sentence that the next checks belong to. */
    static void sentence(String promise) {
        sentences++;
        sentence = promise;
    }

    static void due(long got, long want) {
        sentenceDue(Long.toString(got), Long.toString(want));
    }

    static void due(boolean got, boolean want) {
        due(got ? 1 : 0, want ? 1 : 0);
    }

    private static void sentenceDue(String got, String want) {
        checked++;
        if (!got.equals(want)) {
            wrong++;
            System.out.println(sentence + " (" + place() + ") answered " + got + ", due is " + want);
        }
    }

    /** The line of a test that a check was called from. */
    private static String place() {
        return StackWalker.getInstance().walk(frames -> frames
            .filter(frame -> !frame.getClassName().startsWith("Check"))
            .findFirst()
            .map(frame -> frame.getClassName() + "." + frame.getMethodName() + ", line " + frame.getLineNumber())
            .orElse("no place"));
    }

    // ---- refused calls

    /** A call that has to throw just this exception and to change nothing that could ever be told. */
    static void refused(Class<?> want, Supplier<ShaftPlumb> made, Asked call) {
        ShaftPlumb x = made.get();
        sentenceDue(outcome(() -> call.of(x)), "throws " + want.getSimpleName());
        sentenceDue(story(x), story(made.get()));
    }

    static void index(Supplier<ShaftPlumb> made, Asked call) {
        refused(INDEX, made, call);
    }

    static void argument(Supplier<ShaftPlumb> made, Asked call) {
        refused(ARGUMENT, made, call);
    }

    static void state(Supplier<ShaftPlumb> made, Asked call) {
        refused(STATE, made, call);
    }

    /** The ends of a range are taken, and what lies next to them or far outside is refused with this exception. */
    static void range(Class<?> want, Supplier<ShaftPlumb> made, int least, int greatest, Valued call) {
        for (int value : new int[] {least, greatest}) {
            ShaftPlumb x = made.get();
            sentenceDue(outcome(() -> call.of(x, value) * 0), "0");
        }
        for (int value : new int[] {least - 1, greatest + 1, Integer.MIN_VALUE, Integer.MAX_VALUE}) {
            refused(want, made, x -> call.of(x, value));
        }
    }

    /** All that an object can still tell, up to its oldest copy; the object is used up by it. */
    private static String story(ShaftPlumb x) {
        StringBuilder told = new StringBuilder();
        told.append(x.checksum()).append(' ').append(x.fault());
        while (!outcome(() -> x.undo()).equals("throws IllegalStateException")) {
            told.append(' ').append(x.checksum());
        }
        told.append(' ').append(outcome(() -> x.run())).append(' ').append(x.checksum());
        told.append(' ').append(outcome(() -> x.type('k'))).append(' ').append(x.fault());
        return told.toString();
    }

    // ---- copies

    /** A call that only looks: nothing that could ever be told is another one behind it. */
    static void looks(Supplier<ShaftPlumb> made, Asked call) {
        ShaftPlumb x = made.get();
        call.of(x);
        sentenceDue(story(x), story(made.get()));
    }

    /** A call that keeps just one copy, from which undo() brings back all that was. */
    static void undoable(Supplier<ShaftPlumb> made, Asked call) {
        int copies = copiesOf(made.get());
        ShaftPlumb x = made.get();
        call.of(x);
        due(x.undo(), Math.min(copies, 3));
        // The number of copies is the last one in a checksum.
        due(x.checksum() - Math.min(copies, 3), made.get().checksum() - copies);
    }

    /** How many changes of an object can be undone; the object is used up by it. */
    static int copiesOf(ShaftPlumb x) {
        int copies = 0;
        while (!outcome(() -> x.undo()).equals("throws IllegalStateException")) {
            copies++;
        }
        return copies;
    }

    static void end(String test) {
        System.out.println(test + ": " + sentences + " sentences, " + checked + " checks, " + wrong + " not as due");
        if (wrong != 0 || checked == 0) {
            System.exit(1);
        }
    }
}
