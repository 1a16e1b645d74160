/** Promises 18 to 31. */
public final class AskingTest {
    private static final int MOST = Integer.MAX_VALUE;

    private static void inBox() {
        CairnIndex index = Made.twoEmpty();
        index.addPoint(0, 100, 100, 0);
        index.addPoint(0, 110, 100, 0);
        index.addBox(1, 10, 10, 5, 5, 0);
        Checks.due("a box around both", 2, index.inBox(0, 90, 90, 30, 30));
        Checks.due("up to the edge", 2, index.inBox(0, 100, 100, 10, 0));
        Checks.due("just short of it", 1, index.inBox(0, 100, 100, 9, 0));
        Checks.due("just behind it", 1, index.inBox(0, 101, 90, 1000, 1023));
        Checks.due("above", 0, index.inBox(0, 100, 101, 10, 10));
        Checks.due("the corner of a box, LOOSE", 1, index.inBox(1, 15, 15, 0, 0));
        Checks.due("to the right of it", 0, index.inBox(1, 16, 15, 0, 0));
        Checks.due("above it", 0, index.inBox(1, 15, 16, 0, 0));
        Checks.due("from the left", 1, index.inBox(1, 0, 0, 10, 10));
        Checks.due("short from the left", 0, index.inBox(1, 0, 0, 9, 10));
        Checks.due("within it", 1, index.inBox(1, 12, 12, 1, 1));
        index.pack(1);
        Checks.due("packed", 1, index.inBox(1, 15, 15, 0, 0));
        Checks.due("out of the map", 0, index.inBox(0, 1023, 1023, 1023, 1023));
        index.remove(0);
        Checks.due("one is gone", 1, index.inBox(0, 0, 0, 1023, 1023));
    }

    private static void visited() {
        CairnIndex index = Made.twoEmpty();
        Checks.due("the root of points", 1, index.visited(0, 0, 0, 0, 0));
        Checks.due("no root of boxes", 0, index.visited(1, 0, 0, 1023, 1023));
        index.setSize(0, 1);
        index.addPoint(0, 100, 100, 0);
        index.addPoint(0, 900, 900, 0);
        Checks.due("the root and a quarter", 2, index.visited(0, 511, 511, 0, 0));
        Checks.due("the next quarter", 2, index.visited(0, 512, 512, 0, 0));
        Checks.due("two quarters", 3, index.visited(0, 511, 0, 1, 511));
        Checks.due("all quarters", 5, index.visited(0, 511, 511, 1, 1));

        index.setSize(1, 2);
        for (int i = 0; i < 5; i++) {
            index.addBox(1, 100 * i, 0, 10, 10, 0);
        }
        Checks.due("LOOSE ones are no nodes", 0, index.visited(1, 0, 0, 1023, 1023));
        index.pack(1);
        Checks.due("all nodes", 6, index.visited(1, 0, 0, 1023, 1023));
        Checks.due("at the edge of the root", 3, index.visited(1, 410, 10, 0, 0));
        Checks.due("beside the root", 0, index.visited(1, 411, 10, 0, 0));
        index.remove(6);
        Checks.due("boxes stay", 3, index.visited(1, 410, 10, 0, 0));
        index.pack(1);
        Checks.due("till it is packed", 0, index.visited(1, 410, 10, 0, 0));
    }

    private static void wrongBoxes() {
        CairnIndex index = Made.twoEmpty();
        int[][] wrong = {{-1, 0, 0, 0}, {1024, 0, 0, 0}, {0, -1, 0, 0}, {0, 1024, 0, 0},
            {0, 0, -1, 0}, {0, 0, 1024, 0}, {0, 0, 0, -1}, {0, 0, 0, 1024}, {0, 0, MOST, 0}};
        for (int[] w : wrong) {
            String told = java.util.Arrays.toString(w);
            Checks.badArgument(index, "inBox " + told, () -> index.inBox(0, w[0], w[1], w[2], w[3]));
            Checks.badArgument(index, "visited " + told, () -> index.visited(1, w[0], w[1], w[2], w[3]));
            Checks.noLayer(index, "inBox of no layer, first", () -> index.inBox(2, w[0], w[1], w[2], w[3]));
            Checks.noLayer(index, "visited of no layer, first", () -> index.visited(-1, w[0], w[1], w[2], w[3]));
        }
    }

    private static void nearest() {
        CairnIndex index = Made.twoEmpty();
        Checks.due("without things", -1, index.nearest(0, 0, 0, 1));
        Checks.due("far without things", -1, index.far(0, 0, 0, 1));
        index.addPoint(0, 10, 0, 0);
        index.addPoint(0, 0, 10, 0);
        index.addPoint(0, 3, 4, 0);
        index.addPoint(0, 0, 10, 0);
        int[] due = {2, 0, 1, 3, -1};
        int[] dueFar = {25, 100, 100, 100, -1};
        for (int k = 1; k <= 5; k++) {
            Checks.due("nearest " + k, due[k - 1], index.nearest(0, 0, 0, k));
            Checks.due("far " + k, dueFar[k - 1], index.far(0, 0, 0, k));
        }
        Checks.due("the 80th", -1, index.nearest(0, 0, 0, 80));
        Checks.due("thing 0 from where it is", 0, index.nearest(0, 10, 0, 1));
        Checks.due("so near", 0, index.far(0, 10, 0, 1));
        index.remove(0);
        Checks.due("one is gone", 1, index.nearest(0, 0, 0, 2));
        Checks.due("across the map", 1023 * 1023 + 1013 * 1013, index.far(0, 1023, 1023, 2));

        index.addBox(1, 100, 100, 50, 50, 0);
        index.addBox(1, 160, 100, 1, 1, 0);
        Checks.due("within a box", 4, index.nearest(1, 120, 120, 1));
        Checks.due("so near", 0, index.far(1, 120, 120, 1));
        Checks.due("the next one", 40 * 40 + 19 * 19, index.far(1, 120, 120, 2));
        Checks.due("of two as near the smaller number", 4, index.nearest(1, 155, 100, 1));
        Checks.due("of two as near the other one", 5, index.nearest(1, 155, 100, 2));
    }

    private static void visitedFor() {
        CairnIndex index = Made.twoEmpty();
        Checks.due("all without things", 1, index.visitedFor(0, 0, 0, 1));
        Checks.due("none without nodes", 0, index.visitedFor(1, 0, 0, 1));
        index.setSize(0, 1);
        index.addPoint(0, 500, 111, 0);
        index.addPoint(0, 900, 900, 0);
        Checks.due("thing 0 from where it is", 2, index.visitedFor(0, 500, 111, 1));
        Checks.due("within 11 * 11", 2, index.visitedFor(0, 500, 100, 1));
        index.move(0, 511, 511);
        Checks.due("in its quarter alone", 2, index.visitedFor(0, 511, 511, 1));
        index.move(0, 500, 112);
        Checks.due("within 12 * 12", 3, index.visitedFor(0, 500, 100, 1));
        Checks.due("all without the third", 5, index.visitedFor(0, 500, 100, 3));
        Checks.due("the second", 5, index.visitedFor(0, 500, 500, 2));

        index.setSize(1, 2);
        for (int i = 0; i < 5; i++) {
            index.addBox(1, 100 * i, 0, 10, 10, 0);
        }
        Checks.due("no node, all LOOSE", 0, index.visitedFor(1, 0, 0, 1));
        index.pack(1);
        index.addBox(1, 0, 500, 0, 0, 0);
        Checks.due("a LOOSE one, within 0", 0, index.visitedFor(1, 0, 500, 1));
        Checks.due("the second, within 490 * 490", 3, index.visitedFor(1, 0, 500, 2));
        Checks.due("all without the 7th", 6, index.visitedFor(1, 0, 500, 7));
    }

    private static void wrongNearest() {
        CairnIndex index = Made.twoEmpty();
        int[][] wrong = {{-1, 0, 1}, {1024, 0, 1}, {0, -1, 1}, {0, 1024, 1}, {0, 0, 0}, {0, 0, 81}, {0, 0, -1}};
        for (int[] w : wrong) {
            String told = java.util.Arrays.toString(w);
            Checks.badArgument(index, "nearest " + told, () -> index.nearest(0, w[0], w[1], w[2]));
            Checks.badArgument(index, "far " + told, () -> index.far(0, w[0], w[1], w[2]));
            Checks.badArgument(index, "visitedFor " + told, () -> index.visitedFor(0, w[0], w[1], w[2]));
            Checks.noLayer(index, "nearest of no layer, first", () -> index.nearest(2, w[0], w[1], w[2]));
            Checks.noLayer(index, "far of no layer, first", () -> index.far(2, w[0], w[1], w[2]));
            Checks.noLayer(index, "visitedFor of no layer, first", () -> index.visitedFor(-1, w[0], w[1], w[2]));
        }
    }

    private static void pairs() {
        CairnIndex index = Made.twoEmpty();
        Checks.due("without things", 0, index.pairs(0, 1, 3000000));
        index.addPoint(0, 0, 0, 0);
        index.addPoint(0, 3, 4, 0);
        index.addPoint(0, 6, 8, 0);
        index.addBox(1, 8, 8, 10, 10, 0);
        index.addBox(1, 18, 18, 10, 10, 0);
        Checks.due("within 25", 2, index.pairs(0, 0, 25));
        Checks.due("within 24", 0, index.pairs(0, 0, 24));
        Checks.due("within 100", 3, index.pairs(0, 0, 100));
        Checks.due("none with itself", 0, index.pairs(0, 0, 0));
        Checks.due("boxes that touch", 1, index.pairs(1, 1, 0));
        Checks.due("points and boxes within 4", 1, index.pairs(0, 1, 4));
        Checks.due("points and boxes within 3", 0, index.pairs(0, 1, 3));
        Checks.due("boxes and points", 6, index.pairs(1, 0, 3000000));
        index.remove(1);
        Checks.due("one is gone", 1, index.pairs(0, 0, 3000000));
    }

    private static void longBoxes() {
        CairnIndex index = Made.twoEmpty();
        index.addBox(1, 0, 0, 100, 5, 0);
        index.addBox(1, 110, 0, 3, 200, 0);
        index.addBox(1, 0, 10, 7, 150, 0);
        Checks.due("within 24", 0, index.pairs(1, 1, 24));
        Checks.due("0 and 2 are 5 apart", 1, index.pairs(1, 1, 25));
        Checks.due("0 and 1 are 10 apart", 1, index.pairs(1, 1, 99));
        Checks.due("so two pairs", 2, index.pairs(1, 1, 100));
        Checks.due("1 and 2 are 103 apart", 2, index.pairs(1, 1, 103 * 103 - 1));
        Checks.due("so three pairs", 3, index.pairs(1, 1, 103 * 103));
        Checks.due("greatest", 2, index.greatest(1, 25));
        Checks.due("clusters", 2, index.clusters(1, 25));
    }

    /** Trees of other depths, against each other, for all numbers at which something changes. */
    private static void deepPairs() {
        CairnIndex index = new CairnIndex();
        PlainIndex plain = new PlainIndex();
        boolean[] kinds = {true, false, true, false};
        for (int layer = 0; layer < 4; layer++) {
            index.addLayer(kinds[layer]);
            plain.addLayer(kinds[layer]);
            index.setSize(layer, 2 + layer);
            plain.setSize(layer, 2 + layer);
            for (int i = 0; i < 20; i++) {
                int x = i * i * (7 + layer) % 900;
                int y = i * 67 % (300 + 50 * layer);
                if (kinds[layer]) {
                    index.addPoint(layer, x, y, 0);
                    plain.addPoint(layer, x, y, 0);
                } else {
                    index.addBox(layer, x, y, 3 * i, 20 - i, 0);
                    plain.addBox(layer, x, y, 3 * i, 20 - i, 0);
                }
            }
        }
        index.pack(1);
        plain.pack(1);
        index.pack(3);
        plain.pack(3);
        for (int one = 0; one < 4; one++) {
            for (int other = 0; other < 4; other++) {
                for (int far : new int[] {0, 1, 2, 100, 400, 2500, 10000, 40000, 250000, 3000000}) {
                    String told = one + ", " + other + ", " + far;
                    Checks.due("visitedPairs " + told, plain.visitedPairs(one, other, far), index.visitedPairs(one, other, far));
                    Checks.due("pairs " + told, plain.pairs(one, other, far), index.pairs(one, other, far));
                }
            }
        }
    }

    /** Squares down to the side 1, in layers that meet in some of them only. */
    private static void deepestPairs() {
        CairnIndex index = new CairnIndex();
        PlainIndex plain = new PlainIndex();
        for (int layer = 0; layer < 2; layer++) {
            index.addLayer(true);
            plain.addLayer(true);
            index.setSize(layer, 1);
            plain.setSize(layer, 1);
            for (int i = 0; i < 20; i++) {
                int x = (i * 128 + 30) % 1024 + layer * 40;
                int y = i / 8 * 128 + 30 + layer * 7;
                index.addRow(layer, x, y, 1, 0, 2);
                plain.addRow(layer, x, y, 1, 0, 2);
            }
        }
        Checks.due("depth", 11, index.depth(0));
        for (int far : new int[] {0, 1, 50, 900, 20000, 3000000}) {
            Checks.due("visitedPairs within " + far, plain.visitedPairs(0, 1, far), index.visitedPairs(0, 1, far));
            Checks.due("visitedPairs of one within " + far, plain.visitedPairs(0, 0, far), index.visitedPairs(0, 0, far));
        }
    }

    private static void visitedPairs() {
        CairnIndex index = Made.twoEmpty();
        Checks.due("no root of boxes", 0, index.visitedPairs(0, 1, 0));
        Checks.due("no root at all", 0, index.visitedPairs(1, 1, 0));
        Checks.due("both roots are leaves", 1, index.visitedPairs(0, 0, 0));
        int other = index.addLayer(true);
        index.setSize(0, 1);
        index.addPoint(0, 100, 100, 0);
        index.addPoint(0, 900, 900, 0);
        Checks.due("only one has nodes below", 5, index.visitedPairs(0, other, 0));
        Checks.due("only the other has", 5, index.visitedPairs(other, 0, 0));
        Checks.due("both have", 17, index.visitedPairs(0, 0, 0));
        index.addPoint(0, 400, 400, 0);
        // Quarter 0 has four below; with itself: 16; with quarters 1 to 3, from both sides: 4 each,
        // as all squares of side 512 are 1 from each other at the most in x and in y.
        Checks.due("a level more, within 2", 17 + 16 + 24, index.visitedPairs(0, 0, 2));
        Checks.due("a level more, within 1", 17 + 16 + 16, index.visitedPairs(0, 0, 1));
        Checks.due("a level more, within 0", 17 + 16, index.visitedPairs(0, 0, 0));

        CairnIndex apart = new CairnIndex();
        apart.addLayer(false);
        apart.addLayer(false);
        for (int i = 0; i < 5; i++) {
            apart.addBox(0, i, i, 0, 0, 0);
            apart.addBox(1, 900 + i, 900, 0, 0, 0);
        }
        apart.pack(0);
        apart.pack(1);
        int far = 896 * 896 + 896 * 896;
        Checks.due("roots that are farther", 1, apart.visitedPairs(0, 1, far - 1));
        Checks.due("roots that are just so far", 5, apart.visitedPairs(0, 1, far));
    }

    private static void clusters() {
        CairnIndex index = Made.twoEmpty();
        Checks.due("without things", 0, index.clusters(0, 0));
        Checks.due("greatest without things", 0, index.greatest(0, 3000000));
        index.addRow(0, 0, 0, 3, 4, 4);
        index.addPoint(0, 500, 500, 0);
        index.addPoint(0, 500, 500, 0);
        index.addPoint(0, 900, 900, 0);
        Checks.due("a chain within 25", 3, index.clusters(0, 25));
        Checks.due("its things", 4, index.greatest(0, 25));
        Checks.due("within 24", 6, index.clusters(0, 24));
        Checks.due("the two on one place", 2, index.greatest(0, 24));
        Checks.due("within 0", 6, index.clusters(0, 0));
        Checks.due("all", 1, index.clusters(0, 3000000));
        Checks.due("all of them", 7, index.greatest(0, 3000000));
        index.remove(1);
        Checks.due("the chain is broken", 4, index.clusters(0, 25));
        Checks.due("what is left", 2, index.greatest(0, 25));
        index.addBox(1, 0, 0, 10, 10, 0);
        Checks.due("one alone", 1, index.clusters(1, 0));
        index.addBox(1, 30, 0, 10, 10, 0);
        index.addBox(1, 10, 10, 20, 0, 0);
        Checks.due("the third joins both", 1, index.clusters(1, 0));
        Checks.due("all three", 3, index.greatest(1, 0));
    }

    private static void wrongFar() {
        CairnIndex index = Made.twoEmpty();
        for (int far : new int[] {-1, 3000001, Integer.MIN_VALUE, MOST}) {
            Checks.badArgument(index, "pairs", () -> index.pairs(0, 1, far));
            Checks.badArgument(index, "visitedPairs", () -> index.visitedPairs(0, 1, far));
            Checks.badArgument(index, "clusters", () -> index.clusters(0, far));
            Checks.badArgument(index, "greatest", () -> index.greatest(1, far));
        }
        Checks.noLayer(index, "pairs of no layer", () -> index.pairs(2, 0, -1));
        Checks.noLayer(index, "pairs with no layer", () -> index.pairs(0, 2, -1));
        Checks.noLayer(index, "visitedPairs of no layer", () -> index.visitedPairs(-1, 0, -1));
        Checks.noLayer(index, "visitedPairs with no layer", () -> index.visitedPairs(0, -1, -1));
        Checks.noLayer(index, "clusters of no layer", () -> index.clusters(2, -1));
        Checks.noLayer(index, "greatest of no layer", () -> index.greatest(2, -1));
    }

    private static void corners() {
        CairnIndex index = Made.twoEmpty();
        Checks.badArgument(index, "x -1", () -> index.corner(-1, 0));
        Checks.badArgument(index, "x 1024", () -> index.corner(1024, 0));
        Checks.badArgument(index, "y -1", () -> index.corner(0, -1));
        Checks.badArgument(index, "y 1024", () -> index.corner(0, 1024));
        Checks.due("none of them was added", 0, index.clear());
        int[][] square = {{0, 0}, {1023, 0}, {1023, 1023}, {0, 1023}};
        int[] areas = {0, 0, 1023 * 1023, 2 * 1023 * 1023};
        for (int i = 0; i < 4; i++) {
            Checks.due("corner", i + 1, index.corner(square[i][0], square[i][1]));
            Checks.due("area with it", areas[i], index.area());
        }
        for (int i = 5; i <= 8; i++) {
            Checks.due("the same corner", i, index.corner(0, 1023));
        }
        Checks.badState(index, "a ninth", () -> index.corner(0, 0));
        Checks.badArgument(index, "a wrong ninth", () -> index.corner(0, 1024));
        Checks.due("area", 2 * 1023 * 1023, index.area());
        Checks.due("clear", 8, index.clear());
        Checks.due("clear again", 0, index.clear());
        Checks.due("area of none", 0, index.area());
        Checks.due("a new one", 1, index.corner(0, 0));
        index.corner(0, 10);
        index.corner(10, 0);
        Checks.due("area the other way round", 100, index.area());
        index.clear();
        for (int[] c : new int[][] {{0, 0}, {10, 10}, {10, 0}, {0, 10}}) {
            index.corner(c[0], c[1]);
        }
        Checks.due("area of one that crosses itself", 0, index.area());
        fence(index, 100, 200, 400, 200, 400, 700, 90, 800);
        Checks.due("area of four corners", 335000, index.area());
        fence(index, 100, 200, 400, 200, 400, 700);
        Checks.due("area of three, after four", 150000, index.area());
    }

    private static void fence(CairnIndex index, int... places) {
        index.clear();
        for (int i = 0; i + 1 < places.length; i += 2) {
            index.corner(places[i], places[i + 1]);
        }
    }

    private static void duePoint(int x, int y, boolean due, int... places) {
        CairnIndex index = Made.twoEmpty();
        fence(index, places);
        index.addPoint(0, x, y, 0);
        Checks.due("the point " + x + ", " + y + " in the fence", due ? 1 : 0, index.inFence(0, -1));
    }

    private static void pointsInFence() {
        int[] square = {10, 10, 20, 10, 20, 20, 10, 20};
        int[][] in = {{10, 10}, {20, 20}, {15, 10}, {10, 15}, {20, 15}, {15, 20}, {15, 15}, {11, 19}};
        int[][] out = {{9, 10}, {21, 10}, {9, 15}, {21, 15}, {15, 9}, {15, 21}, {9, 20}, {0, 0}, {1023, 15},
            {20, 21}, {20, 9}, {10, 21}, {10, 9}, {20, 30}, {10, 40}, {10, 0}};
        for (int[] p : in) {
            duePoint(p[0], p[1], true, square);
        }
        for (int[] p : out) {
            duePoint(p[0], p[1], false, square);
        }
        int[] tall = {10, 100, 20, 100, 20, 300, 10, 300};
        duePoint(10, 200, true, tall);
        duePoint(20, 300, true, tall);
        duePoint(10, 301, false, tall);
        duePoint(20, 301, false, tall);
        duePoint(10, 99, false, tall);
        duePoint(20, 50, false, tall);
        int[] broad = {100, 10, 300, 10, 300, 20, 100, 20};
        duePoint(200, 20, true, broad);
        duePoint(99, 20, false, broad);
        duePoint(301, 10, false, broad);
        int[] diamond = {150, 100, 200, 150, 150, 200, 100, 150};
        duePoint(50, 150, false, diamond);
        duePoint(120, 150, true, diamond);
        duePoint(50, 100, false, diamond);
        duePoint(50, 200, false, diamond);
        duePoint(125, 125, true, diamond);
        duePoint(124, 125, false, diamond);
        duePoint(175, 125, true, diamond);
        duePoint(176, 125, false, diamond);
        int[] bow = {0, 0, 100, 100, 100, 0, 0, 100};
        duePoint(10, 50, true, bow);
        duePoint(90, 50, true, bow);
        duePoint(50, 50, true, bow);
        duePoint(50, 60, false, bow);
        duePoint(50, 40, false, bow);
        int[] twiceAround = {0, 0, 100, 0, 0, 100, 0, 0, 100, 0, 0, 100};
        duePoint(10, 10, false, twiceAround);
        duePoint(0, 10, true, twiceAround);
        int[] flat = {10, 5, 20, 5, 30, 5};
        duePoint(15, 5, true, flat);
        duePoint(9, 5, false, flat);
        duePoint(31, 5, false, flat);
        int[] place = {7, 7, 7, 7, 7, 7};
        duePoint(7, 7, true, place);
        duePoint(6, 7, false, place);
        int[] slanting = {0, 0, 1023, 1022, 0, 1023};
        duePoint(512, 511, false, slanting);
        duePoint(511, 511, true, slanting);
    }

    private static void dueBox(int x, int y, int w, int h, boolean due) {
        CairnIndex index = Made.twoEmpty();
        fence(index, 10, 10, 20, 10, 20, 20, 10, 20);
        index.addBox(1, x, y, w, h, 0);
        Checks.due("the box " + x + ", " + y + ", " + w + ", " + h + " in the fence", due ? 1 : 0, index.inFence(1, -1));
        index.pack(1);
        Checks.due("the same, packed", due ? 1 : 0, index.inFence(1, -1));
    }

    private static void inFence() {
        dueBox(9, 12, 1, 1, false);
        dueBox(9, 12, 2, 1, true);
        dueBox(20, 12, 1, 0, false);
        dueBox(20, 12, 0, 1, true);
        dueBox(12, 20, 0, 1, false);
        dueBox(12, 9, 0, 1, false);
        dueBox(12, 9, 1, 2, true);
        dueBox(0, 0, 30, 30, true);
        dueBox(11, 11, 200, 200, false);

        CairnIndex index = Made.twoEmpty();
        index.addRow(0, 10, 10, 1, 1, 20);
        Checks.badState(index, "no fence", () -> index.inFence(0, -1));
        fence(index, 10, 10, 20, 10);
        Checks.badState(index, "two corners", () -> index.inFence(0, 0));
        Checks.badArgument(index, "tag 10, ahead of the corners", () -> index.inFence(0, 10));
        Checks.badArgument(index, "tag -2, ahead of the corners", () -> index.inFence(0, -2));
        Checks.noLayer(index, "no layer, ahead of all", () -> index.inFence(2, 10));
        index.corner(20, 20);
        Checks.due("all tags", 11, index.inFence(0, -1));
        Checks.due("tag 0", 2, index.inFence(0, 0));
        Checks.due("tag 9", 1, index.inFence(0, 9));
        Checks.due("another layer", 0, index.inFence(1, -1));
        index.remove(0);
        Checks.due("one is gone", 1, index.inFence(0, 0));
    }

    private static void fullness() {
        CairnIndex index = Made.twoEmpty();
        Checks.dueExactly("an empty root", 0.0, index.fullness(0));
        Checks.dueExactly("without leaves", 0.0, index.fullness(1));
        index.addRow(0, 0, 0, 200, 200, 5);
        Checks.dueExactly("five points in four squares", 1.25, index.fullness(0));
        index.setSize(0, 8);
        Checks.dueExactly("five points in one", 5.0, index.fullness(0));
        for (int i = 0; i < 7; i++) {
            index.addBox(1, i, i, 0, 0, 0);
        }
        Checks.dueExactly("LOOSE ones", 0.0, index.fullness(1));
        index.setSize(1, 3);
        index.pack(1);
        Checks.dueExactly("seven boxes in three leaves", 7.0 / 3.0, index.fullness(1));
        index.remove(5);
        index.move(6, 0, 0);
        Checks.dueExactly("five are left", 5.0 / 3.0, index.fullness(1));
        Checks.noLayer(index, "no layer", () -> index.fullness(2));
        Checks.noLayer(index, "layer -1", () -> index.fullness(-1));
    }

    public static void main(String[] args) {
        inBox();
        visited();
        wrongBoxes();
        nearest();
        visitedFor();
        wrongNearest();
        pairs();
        longBoxes();
        visitedPairs();
        deepPairs();
        deepestPairs();
        clusters();
        wrongFar();
        corners();
        pointsInFence();
        inFence();
        fullness();
        Checks.end();
    }
}
