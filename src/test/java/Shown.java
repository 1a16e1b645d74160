import java.util.ArrayList;
import java.util.List;

/**
 * All that an object shows, as one line a call: two objects with the same lines are alike. It ends
 * with calls that change the object (for sizes and corners are told by those alone), so nothing
 * else is asked of it. All in all fewer than MOST_CALLS are made: with what made the object they
 * stay within the 512 that the document promises to answer.
 */
final class Shown {
    static final int MOST_CALLS = 320;

    private static final int MOST_LAYERS = 4;
    private static final int[][] PLACES = {{0, 0}, {511, 511}, {512, 300}, {1023, 1023}};

    private final CairnIndex index;
    private final List<String> lines = new ArrayList<>();

    private Shown(CairnIndex index) {
        this.index = index;
    }

    static List<String> by(CairnIndex index) {
        Shown shown = new Shown(index);
        shown.whole();
        for (int layer = 0; layer < MOST_LAYERS; layer++) {
            shown.tree(layer);
            shown.answers(layer);
        }
        for (int layer = 0; layer + 1 < MOST_LAYERS; layer++) {
            shown.both(layer, layer + 1);
        }
        shown.changes();
        return shown.lines;
    }

    private void line(String call, Checks.Call made) {
        String answer;
        try {
            answer = Double.toString(made.answer());
        } catch (IndexOutOfBoundsException | IllegalArgumentException | IllegalStateException e) {
            answer = e.getClass().getSimpleName();
        }
        lines.add(call + " " + answer);
    }

    private void whole() {
        line("things", () -> index.things());
        line("area", () -> index.area());
        line("digest, upper half", () -> (int) (index.digest() >>> 32));
        line("digest, lower half", () -> (int) index.digest());
    }

    private void tree(int layer) {
        line("size of " + layer, () -> index.size(layer));
        line("nodes of " + layer, () -> index.nodes(layer));
        line("depth of " + layer, () -> index.depth(layer));
        line("fullness of " + layer, () -> index.fullness(layer));
        line("leaves of " + layer, () -> index.level(layer, 0));
        line("nodes above them of " + layer, () -> index.level(layer, 1));
        for (int what = 0; what <= 4; what++) {
            int asked = what;
            line("leaf 0 of " + layer, () -> index.node(layer, 0, 0, asked));
            line("leaf 1 of " + layer, () -> index.node(layer, 0, 1, asked));
            line("node 0 above of " + layer, () -> index.node(layer, 1, 0, asked));
        }
        for (int[] place : PLACES) {
            line("SIDE at a place of " + layer, () -> index.leaf(layer, place[0], place[1], 2));
            line("POINTS at a place of " + layer, () -> index.leaf(layer, place[0], place[1], 3));
        }
    }

    private void answers(int layer) {
        line("inBox of " + layer, () -> index.inBox(layer, 0, 0, 400, 300));
        line("visited of " + layer, () -> index.visited(layer, 0, 0, 400, 300));
        line("visitedPacked of " + layer, () -> index.visitedPacked(layer, 0, 0, 400, 300));
        line("all visitedPacked of " + layer, () -> index.visitedPacked(layer, 0, 0, 1023, 1023));
        for (int k = 1; k <= 3; k++) {
            int asked = k;
            line("nearest of " + layer, () -> index.nearest(layer, 300, 200, asked));
            line("far of " + layer, () -> index.far(layer, 300, 200, asked));
            line("visitedFor of " + layer, () -> index.visitedFor(layer, 300, 200, asked));
        }
        line("clusters of " + layer, () -> index.clusters(layer, 40000));
        line("greatest of " + layer, () -> index.greatest(layer, 40000));
        line("nodesWith 2 of " + layer, () -> index.nodesWith(layer, 2));
        line("inFence of " + layer, () -> index.inFence(layer, -1));
        line("pairs of " + layer, () -> index.pairs(layer, layer, 90000));
    }

    private void both(int one, int other) {
        line("pairs of " + one + " and " + other, () -> index.pairs(one, other, 10000));
        line("visitedPairs of " + one + " and " + other, () -> index.visitedPairs(one, other, 10000));
    }

    private void changes() {
        for (int l = 0; l < MOST_LAYERS; l++) {
            int layer = l;
            line("setSize of " + layer, () -> index.setSize(layer, 5));
            line("pack of " + layer, () -> index.pack(layer));
            line("visited then of " + layer, () -> index.visited(layer, 0, 0, 400, 300));
        }
        line("digest then", () -> (int) index.digest());
        line("corner", () -> index.corner(700, 1000));
        line("area then", () -> index.area());
        line("clear", () -> index.clear());
        line("remove", () -> index.remove(0));
        line("addLayer", () -> index.addLayer(true));
        line("a thing more", () -> index.addPoint(0, 0, 0, 0));
        line("a box more", () -> index.addBox(1, 0, 0, 0, 0, 0));
        line("a row more", () -> index.addRow(2, 0, 0, 1, 1, 3));
        line("digest at the end", () -> (int) index.digest());
    }
}
