/** Calls with a number that tells what is asked: all their answers are due at once, in the order of that number. */
final class Due {
    private Due() {
    }

    /** LAYER, x, y, w, h, TAG and whether it is LOOSE. */
    static void of(CairnIndex index, int thing, int... due) {
        for (int what = 0; what < due.length; what++) {
            Checks.due("of(" + thing + ", " + what + ")", due[what], index.of(thing, what));
        }
    }

    /** x, y, SIDE, how many POINTS and how many squares above, of a leaf of layer 0. */
    static void leaf(CairnIndex index, int x, int y, int... due) {
        for (int what = 0; what < due.length; what++) {
            String call = "leaf(0, " + x + ", " + y + ", " + what + ")";
            Checks.due(call, due[what], index.leaf(0, x, y, what));
        }
    }

    /** x, y, w, h and how many are in it, of a node of layer 0. */
    static void node(CairnIndex index, int level, int node, int... due) {
        for (int what = 0; what < due.length; what++) {
            String call = "node(0, " + level + ", " + node + ", " + what + ")";
            Checks.due(call, due[what], index.node(0, level, node, what));
        }
    }
}
