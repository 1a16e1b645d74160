/** Counts the answers that are not due; each test ends with end(). */
final class Checks {
    private static int wrong = 0;
    private static int made = 0;

    interface Call {
        double answer();
    }

    private Checks() {
    }

    static void due(String call, long want, long got) {
        made++;
        if (got != want) {
            wrong++;
            System.out.println(call + " answered " + got + ", due is " + want);
        }
    }

    static void dueExactly(String call, double want, double got) {
        made++;
        if (Double.compare(got, want) != 0) {
            wrong++;
            System.out.println(call + " answered " + got + ", due is " + want);
        }
    }

    static void holds(String what, boolean so) {
        made++;
        if (!so) {
            wrong++;
            System.out.println("does not hold: " + what);
        }
    }

    /** The call must throw just this, and leave every answer of the object as it was. */
    static void refuses(CairnIndex index, String call, Class<? extends RuntimeException> want, Call made) {
        String before = Snapshot.of(index);
        String thrown = "nothing";
        try {
            made.answer();
        } catch (RuntimeException e) {
            thrown = e.getClass().getSimpleName();
        }
        holds(call + " throws " + want.getSimpleName() + ", but threw " + thrown, thrown.equals(want.getSimpleName()));
        holds(call + " changed nothing", before.equals(Snapshot.of(index)));
    }

    static void noLayer(CairnIndex index, String call, Call made) {
        refuses(index, call, IndexOutOfBoundsException.class, made);
    }

    static void badArgument(CairnIndex index, String call, Call made) {
        refuses(index, call, IllegalArgumentException.class, made);
    }

    static void badState(CairnIndex index, String call, Call made) {
        refuses(index, call, IllegalStateException.class, made);
    }

    static void end() {
        System.out.println(made + " checks, " + wrong + " wrong");
        if (wrong > 0) {
            System.exit(1);
        }
    }
}
