/** Counts the answers that are not due; each test ends with end(). */
final class Checks {
    private static int wrong = 0;
    private static int made = 0;
    private static String sentence = "";

    interface Call {
        double answer();
    }

    private Checks() {
    }

    /** Quotes the sentence of the document that the next checks hold to: it is told with each that fails. */
    static void says(String words) {
        sentence = "\"" + words + "\": ";
    }

    private static void count(boolean so, String told) {
        made++;
        if (!so) {
            wrong++;
            System.out.println(sentence + told);
        }
    }

    static void due(String call, long want, long got) {
        count(got == want, call + " answered " + got + ", due is " + want);
    }

    static void dueExactly(String call, double want, double got) {
        count(Double.compare(got, want) == 0, call + " answered " + got + ", due is " + want);
    }

    static void holds(String what, boolean so) {
        count(so, "does not hold: " + what);
    }

    /** The call must throw just this, and leave every answer of the object as it was. */
    static void refuses(CairnIndex index, String call, Class<? extends RuntimeException> want, Call made) {
        String before = Snapshot.of(index);
        String thrown = "nothing";
        try {
            made.answer();
        } catch (RuntimeException e) {
            thrown = e.getClass().getSimpleName();
        }
        holds(call + " throws " + want.getSimpleName() + ", but threw " + thrown, thrown.equals(want.getSimpleName()));
        holds(call + " changed nothing", before.equals(Snapshot.of(index)));
    }

    static void noLayer(CairnIndex index, String call, Call made) {
        refuses(index, call, IndexOutOfBoundsException.class, made);
    }

    static void badArgument(CairnIndex index, String call, Call made) {
        refuses(index, call, IllegalArgumentException.class, made);
    }

    static void badState(CairnIndex index, String call, Call made) {
        refuses(index, call, IllegalStateException.class, made);
    }

    static void end() {
        System.out.println(made + " checks, " + wrong + " wrong");
        if (wrong > 0) {
            System.exit(1);
        }
    }
}
