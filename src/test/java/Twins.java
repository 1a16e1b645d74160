import java.util.List;

/** Calls on objects that are made alike: one is called, the other is not, and both are asked for all they show. */
final class Twins {
    static final Class<IndexOutOfBoundsException> BOUNDS = IndexOutOfBoundsException.class;
    static final Class<IllegalArgumentException> ARGUMENT = IllegalArgumentException.class;
    static final Class<IllegalStateException> STATE = IllegalStateException.class;

    interface Maker {
        CairnIndex make();
    }

    interface Act {
        double on(CairnIndex index);
    }

    interface OnNumber {
        double at(CairnIndex index, int number);
    }

    interface OnPlace {
        double at(CairnIndex index, int x, int y);
    }

    private Twins() {
    }

    private static Class<?> thrownBy(CairnIndex index, Act act) {
        try {
            act.on(index);
        } catch (RuntimeException e) {
            return e.getClass();
        }
        return null;
    }

    private static String named(Class<?> thrown) {
        return thrown == null ? "nothing" : thrown.getSimpleName();
    }

    private static void alike(String call, CairnIndex called, CairnIndex untouched) {
        List<String> due = Shown.by(untouched);
        List<String> found = Shown.by(called);
        Checks.holds("few enough calls: " + due.size(), due.size() <= Shown.MOST_CALLS);
        for (int i = 0; i < due.size(); i++) {
            if (!due.get(i).equals(found.get(i))) {
                Checks.holds(call + " changed nothing: " + found.get(i) + ", without it " + due.get(i), false);
                return;
            }
        }
        Checks.holds(call + " changed nothing", true);
    }

    /** The call throws just this, and the object answers as one on which it was not made. */
    static void refused(Class<?> want, String call, Maker maker, Act act) {
        CairnIndex called = maker.make();
        Class<?> thrown = thrownBy(called, act);
        Checks.holds(call + " throws " + named(want) + ", not " + named(thrown), thrown == want);
        alike(call, called, maker.make());
    }

    /** The call answers, whatever it is. */
    static void allowed(String call, Maker maker, Act act) {
        Class<?> thrown = thrownBy(maker.make(), act);
        Checks.holds(call + " is answered, and doesn't throw " + named(thrown), thrown == null);
    }

    /** The call answers this. */
    static void allowed(String call, long due, Maker maker, Act act) {
        CairnIndex called = maker.make();
        Class<?> thrown = thrownBy(called, index -> {
            Checks.due(call, due, (long) act.on(index));
            return 0;
        });
        Checks.holds(call + " is answered, and doesn't throw " + named(thrown), thrown == null);
    }

    /** The call answers, and the object then answers as one on which it was not made. */
    static void unchanged(String call, Maker maker, Act act) {
        CairnIndex called = maker.make();
        Class<?> thrown = thrownBy(called, act);
        Checks.holds(call + " is answered, and doesn't throw " + named(thrown), thrown == null);
        alike(call, called, maker.make());
    }
}
