/** Promises 13 to 17, and how trees of quarters and packed trees are built. */
public final class TreesTest {
    private static void dueTree(CairnIndex index, int nodes, int depth) {
        Checks.due("nodes", nodes, index.nodes(0));
        Checks.due("depth", depth, index.depth(0));
    }

    private static void quarters() {
        CairnIndex index = Made.points(4);
        dueTree(index, 1, 1);
        Checks.due("the root reaches up to 1023", 1, index.visited(0, 1023, 1023, 0, 0));
        Due.leaf(index, 1023, 0, 0, 0, 1024, 0, 0);
        index.addPoint(0, 0, 0, 0);
        index.addPoint(0, 600, 0, 0);
        index.addPoint(0, 0, 600, 0);
        index.addPoint(0, 600, 600, 0);
        dueTree(index, 1, 1);
        Due.leaf(index, 700, 700, 0, 0, 1024, 4, 0);
        index.addPoint(0, 601, 601, 0);
        dueTree(index, 5, 2);
        Due.leaf(index, 511, 511, 0, 0, 512, 1, 1);
        Due.leaf(index, 512, 511, 512, 0, 512, 1, 1);
        Due.leaf(index, 511, 512, 0, 512, 512, 1, 1);
        Due.leaf(index, 512, 512, 512, 512, 512, 2, 1);
        index.move(0, 1023, 1023);
        Due.leaf(index, 0, 0, 0, 0, 512, 0, 1);
        Due.leaf(index, 1023, 1023, 512, 512, 512, 3, 1);
        index.remove(4);
        dueTree(index, 1, 1);
        Checks.noLayer(index, "nodes(1)", () -> index.nodes(1));
        Checks.noLayer(index, "depth(1)", () -> index.depth(1));
        Checks.noLayer(index, "depth(-1)", () -> index.depth(-1));
    }

    private static void smallestSquares() {
        CairnIndex index = Made.points(4);
        index.addRow(0, 5, 5, 0, 0, 5);
        dueTree(index, 41, 11);
        // The root with itself, and on each of ten levels four by four: squares side by side are 1
        // from each other, so within 0 one goes down from the one that is split with itself alone.
        Checks.due("pairs down to the smallest squares", 1 + 10 * 16, index.visitedPairs(0, 0, 0));
        Due.leaf(index, 5, 5, 5, 5, 1, 5, 10);
        Due.leaf(index, 4, 5, 4, 5, 1, 0, 10);
        Due.leaf(index, 6, 5, 6, 4, 2, 0, 9);
        Due.leaf(index, 1000, 1000, 512, 512, 512, 0, 1);

        CairnIndex borders = Made.points(1);
        borders.addPoint(0, 511, 511, 0);
        borders.addPoint(0, 512, 511, 0);
        borders.addPoint(0, 511, 512, 0);
        borders.addPoint(0, 512, 512, 0);
        dueTree(borders, 5, 2);
        borders.addPoint(0, 510, 511, 0);
        dueTree(borders, 41, 11);
        Due.leaf(borders, 511, 511, 511, 511, 1, 1, 10);
    }

    private static void squaresAside() {
        CairnIndex index = Made.points(1);
        index.addPoint(0, 700, 100, 0);
        index.addPoint(0, 700, 140, 0);
        index.addPoint(0, 100, 900, 0);
        // (700, 100) and (700, 140) share the squares at (512, 0) with the sides 512 and 256,
        // and are told apart by y = 128.
        dueTree(index, 13, 4);
        Due.leaf(index, 700, 100, 640, 0, 128, 1, 3);
        Due.leaf(index, 700, 140, 640, 128, 128, 1, 3);
        Due.leaf(index, 512, 0, 512, 0, 128, 0, 3);
        Due.leaf(index, 767, 256, 512, 256, 256, 0, 2);
        Due.leaf(index, 768, 255, 768, 0, 256, 0, 2);
        Due.leaf(index, 0, 700, 0, 512, 512, 1, 1);
        Due.leaf(index, 700, 700, 512, 512, 512, 0, 1);
        Checks.due("visited in the first of them", 4, index.visited(0, 639, 127, 0, 0));
        Checks.due("visited in two of them", 5, index.visited(0, 639, 127, 1, 0));
        Checks.due("visited in the other two", 5, index.visited(0, 639, 127, 0, 1));
    }

    /** 40 pairs of points side by side, told apart by the smallest squares alone: no tree has more nodes. */
    private static void mostNodes() {
        CairnIndex index = Made.points(1);
        int pairs = 0;
        for (int i = 0; i < 64; i++) {
            int column = i % 8;
            int row = i / 8;
            if ((column + row) % 2 == 0 || i < 16) {
                index.addPoint(0, column * 128 + 30, row * 128 + 30, 0);
                index.addPoint(0, column * 128 + 31, row * 128 + 30, 0);
                pairs++;
            }
        }
        Checks.due("pairs", 40, pairs);
        dueTree(index, 1205, 11);
        Due.leaf(index, 31, 30, 31, 30, 1, 1, 10);
        Due.leaf(index, 926, 926, 926, 926, 1, 1, 10);
        Due.leaf(index, 671, 926, 671, 926, 1, 1, 10);
        Due.leaf(index, 670, 927, 670, 927, 1, 0, 10);
        Checks.due("all are visited", 1205, index.visited(0, 0, 0, 1023, 1023));
        Checks.dueExactly("80 points in 904 leaves", 80.0 / 904.0, index.fullness(0));
    }

    private static void wrongLeaf() {
        CairnIndex index = Made.points(4);
        index.addLayer(false);
        Checks.noLayer(index, "leaf of no layer, first", () -> index.leaf(2, -1, 0, 9));
        Checks.badArgument(index, "leaf of boxes", () -> index.leaf(1, 0, 0, 0));
        Checks.badArgument(index, "x -1", () -> index.leaf(0, -1, 0, 0));
        Checks.badArgument(index, "x 1024", () -> index.leaf(0, 1024, 0, 0));
        Checks.badArgument(index, "y -1", () -> index.leaf(0, 0, -1, 0));
        Checks.badArgument(index, "y 1024", () -> index.leaf(0, 0, 1024, 0));
        Checks.badArgument(index, "what -1", () -> index.leaf(0, 0, 0, -1));
        Checks.badArgument(index, "what 5", () -> index.leaf(0, 0, 0, 5));
    }

    private static void packedTree() {
        int[][] five = {{10, 90, 0, 0}, {20, 10, 0, 0}, {30, 50, 0, 0}, {40, 30, 0, 0}, {50, 0, 0, 0}};
        CairnIndex index = Made.packed(2, five);
        dueTree(index, 6, 3);
        Checks.due("leaves", 3, index.level(0, 0));
        Checks.due("above them", 2, index.level(0, 1));
        Checks.due("the root", 1, index.level(0, 2));
        Checks.due("above the root", 0, index.level(0, 3));
        Checks.due("far above", 0, index.level(0, Integer.MAX_VALUE));
        Due.node(index, 0, 0, 20, 10, 20, 20, 2);
        Due.node(index, 0, 1, 10, 50, 20, 40, 2);
        Due.node(index, 0, 2, 50, 0, 0, 0, 1);
        Due.node(index, 1, 0, 20, 0, 30, 30, 2);
        Due.node(index, 1, 1, 10, 50, 20, 40, 1);
        Due.node(index, 2, 0, 10, 0, 40, 90, 2);
        index.move(2, 500, 500);
        index.remove(0);
        Due.node(index, 0, 1, 10, 50, 20, 40, 0);
        Due.node(index, 1, 1, 10, 50, 20, 40, 1);
        dueTree(index, 6, 3);
        index.addBox(0, 900, 900, 9, 9, 0);
        dueTree(index, 6, 3);
        index.pack(0);
        dueTree(index, 6, 3);
        Due.node(index, 2, 0, 20, 0, 889, 909, 2);
    }

    private static void middlesAndTies() {
        // Numbers against the order by x: 4, 3, 2, 1 make the first slice.
        CairnIndex backwards = Made.packed(2, new int[][] {{50, 0, 0, 0}, {40, 9, 0, 0}, {30, 8, 0, 0}, {20, 7, 0, 0}, {10, 6, 0, 0}});
        Due.node(backwards, 0, 0, 10, 6, 10, 1, 2);
        Due.node(backwards, 0, 1, 30, 8, 10, 1, 2);
        Due.node(backwards, 0, 2, 50, 0, 0, 0, 1);
        // The same x: the smaller numbers make the first slice, and y puts them in order.
        CairnIndex column = Made.packed(2, new int[][] {{7, 50, 0, 0}, {7, 40, 0, 0}, {7, 30, 0, 0}, {7, 20, 0, 0}, {7, 10, 0, 0}});
        Due.node(column, 0, 0, 7, 20, 0, 10, 2);
        Due.node(column, 0, 1, 7, 40, 0, 10, 2);
        Due.node(column, 0, 2, 7, 10, 0, 0, 1);
        // The same y: of one slice, the smaller numbers make the first leaf.
        CairnIndex line = Made.packed(2, new int[][] {{30, 5, 0, 0}, {20, 5, 0, 0}, {10, 5, 0, 0}});
        Due.node(line, 0, 0, 20, 5, 10, 0, 2);
        Due.node(line, 0, 1, 10, 5, 0, 0, 1);
        // Middles, not edges: box 0 begins first, but its middle is behind the one of box 1.
        CairnIndex wide = Made.packed(2, new int[][] {{0, 0, 0, 101}, {0, 40, 0, 20}, {0, 51, 0, 0}});
        Due.node(wide, 0, 0, 0, 0, 0, 101, 2);
        Due.node(wide, 0, 1, 0, 51, 0, 0, 1);
        // Leaves whose middles are the same stay in their order on the next level.
        int[][] cross = {{40, 0, 20, 100}, {45, 10, 10, 80}, {0, 40, 100, 20}, {10, 45, 80, 10}, {50, 50, 0, 0}, {49, 49, 2, 2}};
        CairnIndex ties = Made.packed(2, cross);
        Due.node(ties, 0, 0, 40, 0, 20, 100, 2);
        Due.node(ties, 0, 1, 0, 40, 100, 20, 2);
        Due.node(ties, 0, 2, 49, 49, 2, 2, 2);
        Due.node(ties, 1, 0, 0, 0, 100, 100, 2);
        Due.node(ties, 1, 1, 49, 49, 2, 2, 1);
    }

    private static void wrongNodes() {
        CairnIndex index = Made.packed(4, new int[][] {{1, 2, 3, 4}});
        index.addLayer(true);
        index.addLayer(false);
        Checks.due("a layer that was never packed", 0, index.level(2, 0));
        Checks.due("its nodes", 0, index.nodes(2));
        Checks.due("its depth", 0, index.depth(2));
        Due.node(index, 0, 0, 1, 2, 3, 4, 1);
        Checks.noLayer(index, "level of no layer, first", () -> index.level(3, -1));
        Checks.badArgument(index, "level of points", () -> index.level(1, 0));
        Checks.badArgument(index, "level -1", () -> index.level(0, -1));
        Checks.noLayer(index, "node of no layer, first", () -> index.node(3, 0, 0, 9));
        Checks.noLayer(index, "no such node, ahead of what", () -> index.node(0, 0, 1, 9));
        Checks.noLayer(index, "node -1", () -> index.node(0, 0, -1, 0));
        Checks.noLayer(index, "level 1", () -> index.node(0, 1, 0, 0));
        Checks.noLayer(index, "level -1", () -> index.node(0, -1, 0, 0));
        Checks.noLayer(index, "without nodes", () -> index.node(2, 0, 0, 0));
        Checks.badArgument(index, "a layer of points", () -> index.node(1, 7, 7, 0));
        Checks.badArgument(index, "what 5", () -> index.node(0, 0, 0, 5));
        Checks.badArgument(index, "what -1", () -> index.node(0, 0, 0, -1));
    }

    /** Packs 1 to 80 boxes with each FAN, and compares each node with the plain one. */
    private static void allCounts() {
        for (int fan = 2; fan <= 8; fan++) {
            CairnIndex index = new CairnIndex();
            PlainIndex plain = new PlainIndex();
            index.addLayer(false);
            plain.addLayer(false);
            index.setSize(0, fan);
            plain.setSize(0, fan);
            for (int i = 0; i < 80; i++) {
                int x = i * 389 % 824;
                int y = i * i * 31 % 824;
                int w = i * 17 % 201;
                int h = i * 53 % 201;
                index.addBox(0, x, y, w, h, 0);
                plain.addBox(0, x, y, w, h, 0);
                Checks.due("pack of " + (i + 1) + " by " + fan, plain.pack(0), index.pack(0));
                if (i % 7 == 2) {
                    sameTree(index, plain);
                }
            }
            Checks.due("levels of 80 by " + fan, plain.depth(0), index.depth(0));
            sameTree(index, plain);
        }
    }

    private static void sameTree(CairnIndex index, PlainIndex plain) {
        for (int level = 0; level < 8; level++) {
            Checks.due("level(" + level + ")", plain.level(0, level), index.level(0, level));
            for (int node = 0; node < plain.level(0, level); node++) {
                int[] due = new int[5];
                for (int what = 0; what <= 4; what++) {
                    due[what] = plain.node(0, level, node, what);
                }
                Due.node(index, level, node, due);
            }
        }
    }

    public static void main(String[] args) {
        quarters();
        smallestSquares();
        squaresAside();
        mostNodes();
        wrongLeaf();
        packedTree();
        middlesAndTies();
        wrongNodes();
        allCounts();
        Checks.end();
    }
}
