/** The smallest and the greatest numbers that the document names, where they are allowed, with the answers for them. */
public final class SmallestAndGreatestTest {
    private static final int P = Made.POINTS;
    private static final int B = Made.BOXES;
    private static final int EDGE = 1023;
    private static final int GREATEST_FAR = 3000000;

    // ---- CAP and FAN

    private static void caps() {
        Checks.says("A square with more POINTS than CAP (1 to 8; 4, at first), and a SIDE above 1, has four squares");
        for (int cap = 1; cap <= 8; cap++) {
            CairnIndex index = Made.points(cap);
            for (int i = 0; i <= cap; i++) {
                Checks.due("nodes with " + i + " by CAP " + cap, 1, index.nodes(0));
                index.addPoint(0, i % 2 * 600 + i, i / 2 % 2 * 600 + i, 0);
            }
            Checks.due("nodes with one more by CAP " + cap, 5, index.nodes(0));
            Checks.due("depth with one more by CAP " + cap, 2, index.depth(0));
            Checks.due("CAP, told back", cap, index.setSize(0, 4));
            Checks.due("with CAP 4 from now on", cap < 4 ? 1 : 5, index.nodes(0));
            Checks.due("nodesWith it", 5, index.nodesWith(0, cap));
            if (cap < 8) {
                Checks.due("nodesWith one more", 1, index.nodesWith(0, cap + 1));
            }
        }
        CairnIndex atFirst = new CairnIndex();
        atFirst.addLayer(true);
        Checks.due("CAP at first", 4, atFirst.setSize(0, 1));
        Checks.due("CAP 1", 1, atFirst.setSize(0, 8));
        Checks.due("CAP 8", 8, atFirst.setSize(0, 8));
    }

    private static CairnIndex rowOfBoxes(int fan, int count) {
        int[][] places = new int[count][];
        for (int i = 0; i < count; i++) {
            places[i] = new int[] {i * 10, 0, 5, 5};
        }
        return Made.packed(fan, places);
    }

    private static void fans() {
        Checks.says("FAN (2 to 8; 4, at first)");
        for (int fan = 2; fan <= 8; fan++) {
            Checks.due("one by " + fan, 1, rowOfBoxes(fan, 1).nodes(0));
            Checks.due("a leaf that is full", 1, rowOfBoxes(fan, fan).nodes(0));
            Checks.due("one more", 3, rowOfBoxes(fan, fan + 1).nodes(0));
            Checks.due("a root that is full", fan + 1, rowOfBoxes(fan, fan * fan).nodes(0));
            Checks.due("its depth", 2, rowOfBoxes(fan, fan * fan).depth(0));
            Checks.due("one more", fan + 4, rowOfBoxes(fan, fan * fan + 1).nodes(0));
            Checks.due("its depth", 3, rowOfBoxes(fan, fan * fan + 1).depth(0));
            Checks.due("FAN, told back", fan, rowOfBoxes(fan, 3).setSize(0, 4));
            Checks.due("nodesWith it", fan + 4, rowOfBoxes(4, fan * fan + 1).nodesWith(0, fan));
        }
        CairnIndex atFirst = new CairnIndex();
        atFirst.addLayer(false);
        Checks.due("FAN at first", 4, atFirst.setSize(0, 2));
        Checks.due("FAN 2", 2, atFirst.setSize(0, 8));
        Checks.due("FAN 8", 8, atFirst.setSize(0, 8));
        // 80 by FAN 2: 40, 20, 10, 5, 3, 2 and 1.
        Checks.due("80 by FAN 2", 81, rowOfBoxes(2, 80).nodes(0));
        Checks.due("80 by FAN 2, depth", 7, rowOfBoxes(2, 80).depth(0));
        Checks.due("80 by FAN 8", 13, rowOfBoxes(8, 80).nodes(0));
    }

    private static void oneLeafAlone() {
        Checks.says("till there is one, the root. One leaf alone is the root");
        for (int count = 1; count <= 8; count++) {
            CairnIndex index = rowOfBoxes(8, count);
            Checks.due("leaves", 1, index.level(0, 0));
            Checks.due("above it", 0, index.level(0, 1));
            Checks.due("depth", 1, index.depth(0));
            Checks.due("things in it", count, index.node(0, 0, 0, 4));
            Checks.due("its w", count * 10 - 5, index.node(0, 0, 0, 2));
            Checks.due("visited", 1, index.visited(0, 0, 0, 0, 0));
        }
    }

    // ---- squares

    private static void sideOne() {
        Checks.says("A square with more POINTS than CAP, and a SIDE above 1, has four squares of half its SIDE below it");
        for (int cap = 1; cap <= 8; cap += 7) {
            for (int place : new int[] {0, 512, EDGE}) {
                CairnIndex index = Made.points(cap);
                index.addRow(0, place, EDGE - place, 0, 0, cap + 1);
                Checks.due("nodes of more than CAP on one place", 1 + 10 * 4, index.nodes(0));
                Checks.due("depth", 11, index.depth(0));
                Due.leaf(index, place, EDGE - place, place, EDGE - place, 1, cap + 1, 10);
                index.addRow(0, place, EDGE - place, 0, 0, 30);
                Checks.due("nodes of still more", 1 + 10 * 4, index.nodes(0));
                Due.leaf(index, place, EDGE - place, place, EDGE - place, 1, cap + 31, 10);
            }
        }
        // The root with itself, then on each of ten levels four by four: within 0 one goes down in one of them alone.
        Checks.due("pairs down to the SIDE 1", 1 + 10 * 16, Made.points(1, 7, 7, 7, 7).visitedPairs(0, 0, 0));
        // A SIDE of 2 is above 1: these two are told apart by the smallest squares alone.
        CairnIndex pair = Made.points(1, 6, 8, 7, 9);
        Checks.due("depth of two side by side", 11, pair.depth(0));
        Due.leaf(pair, 6, 8, 6, 8, 1, 1, 10);
        Due.leaf(pair, 7, 8, 7, 8, 1, 0, 10);
        Due.leaf(pair, 6, 9, 6, 9, 1, 0, 10);
        Due.leaf(pair, 7, 9, 7, 9, 1, 1, 10);
    }

    private static void betweenTwoSquares() {
        Checks.says("A square has the x and y from its own on, ahead of its own + SIDE");
        // Squares of the sides 512, 256, .. 1 meet at border: the points just ahead of it and on it are told apart.
        int above = 0;
        for (int side = 512; side >= 1; side /= 2) {
            int border = 1024 - side;
            above++;
            CairnIndex right = Made.points(1, border - 1, border, border, border);
            Due.leaf(right, border, border, border, border, side, 1, above);
            Due.leaf(right, EDGE, EDGE, border, border, side, 1, above);
            CairnIndex upper = Made.points(1, border, border - 1, border, border);
            Due.leaf(upper, border, border, border, border, side, 1, above);
        }
        CairnIndex four = Made.points(1, 511, 511, 512, 511, 511, 512, 512, 512);
        Checks.due("nodes", 5, four.nodes(0));
        Due.leaf(four, 511, 511, 0, 0, 512, 1, 1);
        Due.leaf(four, 512, 511, 512, 0, 512, 1, 1);
        Due.leaf(four, 511, 512, 0, 512, 512, 1, 1);
        Due.leaf(four, 512, 512, 512, 512, 512, 1, 1);
        Due.leaf(four, 0, 0, 0, 0, 512, 1, 1);
        Due.leaf(four, EDGE, 0, 512, 0, 512, 1, 1);
        Due.leaf(four, 0, EDGE, 0, 512, 512, 1, 1);
        Due.leaf(four, EDGE, EDGE, 512, 512, 512, 1, 1);
        four.move(1, 510, 511);
        Checks.due("nodes, two in the first quarter", 41, four.nodes(0));
    }

    private static void upToItsEnd() {
        Checks.says("for how FAR it is it reaches up to that - 1");
        CairnIndex index = Made.points(1, 100, 100, 900, 900);
        Checks.due("at the end of the first quarter", 2, index.visited(0, 511, 511, 0, 0));
        Checks.due("one farther in x", 2, index.visited(0, 512, 511, 0, 0));
        Checks.due("both in x", 3, index.visited(0, 511, 511, 1, 0));
        Checks.due("both in y", 3, index.visited(0, 511, 511, 0, 1));
        Checks.due("all four", 5, index.visited(0, 511, 511, 1, 1));
        // From 612 it is 101 to the first quarter, which ends at 511, and 100 or 101 to the nearest point.
        Checks.due("within 100 * 100", 2, Made.points(1, 712, 300, 900, 900, 100, 100).visitedFor(0, 612, 300, 1));
        Checks.due("within 101 * 101", 3, Made.points(1, 713, 300, 900, 900, 100, 100).visitedFor(0, 612, 300, 1));
        Checks.due("upwards within 100 * 100", 2, Made.points(1, 300, 712, 900, 900, 100, 100).visitedFor(0, 300, 612, 1));
        Checks.due("at the end of it, within 0", 2, Made.points(1, 511, 511, 900, 900).visitedFor(0, 511, 511, 1));
        Checks.due("upwards within 101 * 101", 3, Made.points(1, 300, 713, 900, 900, 100, 100).visitedFor(0, 300, 612, 1));
        Checks.due("a pair of quarters is 1 from each other", 1 + 16, index.visitedPairs(0, 0, 0));
    }

    // ---- things at the edges of the map

    private static void greatestThings() {
        CairnIndex index = new CairnIndex();
        index.addLayer(true);
        index.addLayer(false);
        Checks.says("with x and y, 0 to 1023 .. and a TAG, 0 to 9");
        Checks.due("a point at 0", 0, index.addPoint(P, 0, 0, 0));
        Checks.due("a point at 1023", 1, index.addPoint(P, EDGE, EDGE, 9));
        Due.of(index, 0, P, 0, 0, 0, 0, 0, 0);
        Due.of(index, 1, P, EDGE, EDGE, 0, 0, 9, 0);
        Checks.says("in one of BOXES 0 to 200, with x + w and y + h not above 1023");
        Checks.due("the smallest box", 2, index.addBox(B, 0, 0, 0, 0, 0));
        Checks.due("the greatest box", 3, index.addBox(B, 823, 823, 200, 200, 9));
        Checks.due("a box at 1023", 4, index.addBox(B, EDGE, EDGE, 0, 0, 5));
        Checks.due("a box at 1023, 0", 5, index.addBox(B, EDGE, 0, 0, 200, 5));
        Due.of(index, 2, B, 0, 0, 0, 0, 0, 1);
        Due.of(index, 3, B, 823, 823, 200, 200, 9, 1);
        Due.of(index, 4, B, EDGE, EDGE, 0, 0, 5, 1);
        Due.of(index, 5, B, EDGE, 0, 0, 200, 5, 1);
        Checks.says("It is all points from (x, y) to (x + w, y + h)");
        Checks.due("what is at 1023, 1023", 2, index.inBox(B, EDGE, EDGE, 0, 0));
        Checks.due("what is at 823, 823", 1, index.inBox(B, 823, 823, 0, 0));
        Checks.due("what is at 822, 823", 0, index.inBox(B, 822, 823, 0, 0));
        Checks.due("what is at 823, 822", 0, index.inBox(B, 823, 822, 0, 0));
        Checks.due("what is at 1023, 200", 1, index.inBox(B, EDGE, 200, 0, 0));
        Checks.due("what is at 1023, 201", 0, index.inBox(B, EDGE, 201, 0, 0));
        Checks.due("what is at 1022, 200", 0, index.inBox(B, 1022, 200, 0, 0));
        Checks.says("The box of a node is the smallest that has all of what is in it");
        index.pack(B);
        int[] whole = {0, 0, EDGE, EDGE, 4};
        for (int what = 0; what <= 4; what++) {
            Checks.due("the leaf, what " + what, whole[what], index.node(B, 0, 0, what));
        }
        Checks.says("Promise 7: Moves a THING");
        Checks.due("the greatest box, across the map", 623 * 623 * 2, index.move(3, 0, 0));
        Checks.due("and back", 623 * 623 * 2, index.move(3, 823, 823));
        Checks.due("a point, across the map", EDGE * EDGE * 2, index.move(0, EDGE, EDGE));
        Due.of(index, 0, P, EDGE, EDGE, 0, 0, 0, 0);
    }

    private static void rowsAround() {
        Checks.says("Promise 6: x as what is left of x + k * stepX by 1024, y likewise, and the TAG k % 10");
        CairnIndex index = new CairnIndex();
        index.addLayer(true);
        Checks.due("30 by the greatest step", 0, index.addRow(0, EDGE, 0, EDGE, EDGE, 30));
        for (int k = 0; k < 30; k++) {
            Due.of(index, k, 0, EDGE - k, k == 0 ? 0 : 1024 - k, 0, 0, k % 10, 0);
        }
        Checks.due("30 without a step", 30, index.addRow(0, EDGE, EDGE, 0, 0, 30));
        Due.of(index, 59, 0, EDGE, EDGE, 0, 0, 9, 0);
        Checks.due("one at the edge", 60, index.addRow(0, EDGE, 0, 1, 1, 1));
        Due.of(index, 60, 0, EDGE, 0, 0, 0, 0, 0);
        Checks.due("two round the edge", 61, index.addRow(0, EDGE, 1022, 1, 1, 2));
        Due.of(index, 61, 0, EDGE, 1022, 0, 0, 0, 0);
        Due.of(index, 62, 0, 0, EDGE, 0, 0, 1, 0);
        Checks.due("things", 63, index.things());
        Checks.due("size", 63, index.size(0));
    }

    // ---- asking at the edges

    private static void boxesOverTheBorder() {
        Checks.says("Promise 18: Returns how many THINGS of the LAYER have a point in common with it");
        CairnIndex index = Made.mixed();
        index.addPoint(P, EDGE, EDGE, 0);
        index.addPoint(P, 1022, EDGE, 0);
        index.addPoint(P, 0, 0, 0);
        Checks.due("points from 1023, 1023 on", 1, index.inBox(P, EDGE, EDGE, EDGE, EDGE));
        Checks.due("points from 1022, 1023 on", 2, index.inBox(P, 1022, EDGE, EDGE, EDGE));
        Checks.due("points from 1, 1 on", 6, index.inBox(P, 1, 1, EDGE, EDGE));
        Checks.due("all points", 7, index.inBox(P, 0, 0, EDGE, EDGE));
        Checks.due("all points up to 1022", 6, index.inBox(P, 0, 0, 1022, EDGE));
        Checks.due("all points up to 1022, 1022", 5, index.inBox(P, 0, 0, 1022, 1022));
        Checks.due("the point at 0, 0", 1, index.inBox(P, 0, 0, 0, 0));
        Checks.due("boxes from 1023, 1023 on", 1, index.inBox(B, EDGE, EDGE, EDGE, EDGE));
        Checks.due("boxes from 1023, 0 on", 1, index.inBox(B, EDGE, 0, EDGE, EDGE));
        Checks.says("Promise 19: Returns how many nodes are visited for what is within 0 of that box");
        Checks.due("squares from 1023, 1023 on", index.leaf(P, EDGE, EDGE, 4) + 1, index.visited(P, EDGE, EDGE, EDGE, EDGE));
        Checks.due("all squares", index.nodes(P), index.visited(P, 0, 0, EDGE, EDGE));
        Checks.due("nodes from 1023, 1023 on", 3, index.visited(B, EDGE, EDGE, EDGE, EDGE));
        Checks.due("all nodes", 6, index.visited(B, 0, 0, EDGE, EDGE));
        Checks.says("Promise 33: Returns how many nodes would be visited, if it was PACKED now");
        // Four boxes by FAN 3: two leaves and the root.
        Checks.due("nodes from 1023, 1023 on", 2, index.visitedPacked(B, EDGE, EDGE, EDGE, EDGE));
        Checks.due("all nodes", 3, index.visitedPacked(B, 0, 0, EDGE, EDGE));
    }

    private static void farAt0() {
        Checks.says("far: 0 is allowed");
        CairnIndex index = Made.packed(2, new int[][] {{0, 0, 10, 10}, {10, 10, 5, 5}, {16, 10, 5, 5}, {16, 15, 0, 0}});
        int other = index.addLayer(true);
        index.addPoint(other, 15, 15, 0);
        index.addPoint(other, 15, 15, 0);
        index.addPoint(other, 22, 15, 0);
        Checks.due("boxes that touch", 2, index.pairs(0, 0, 0));
        Checks.due("boxes within 1", 4, index.pairs(0, 0, 1));
        Checks.due("points on one place", 1, index.pairs(other, other, 0));
        Checks.due("points and a corner", 2, index.pairs(other, 0, 0));
        Checks.due("points and boxes within 1", 2 + 4 + 1, index.pairs(0, other, 1));
        Checks.due("clusters", 2, index.clusters(0, 0));
        Checks.due("clusters within 1", 1, index.clusters(0, 1));
        Checks.due("greatest", 2, index.greatest(0, 0));
        Checks.due("greatest within 1", 4, index.greatest(0, 1));
        Checks.due("clusters of points", 2, index.clusters(other, 0));
        Checks.due("greatest of points", 2, index.greatest(other, 0));
        // The leaves: 0 to 15 and, with the others, 16 to 21. Each with itself and with the other one.
        Checks.due("visitedPairs", 1 + 4, index.visitedPairs(0, 0, 0));
    }

    private static void farAtItsGreatest() {
        Checks.says("far: 3000000 is allowed");
        CairnIndex index = Made.packed(2, new int[][] {{0, 0, 0, 0}, {EDGE, EDGE, 0, 0}, {0, EDGE, 0, 0}});
        int other = index.addLayer(true);
        index.addPoint(other, 0, EDGE, 0);
        index.addPoint(other, EDGE, 0, 0);
        Checks.due("across the map", EDGE * EDGE * 2, index.far(other, EDGE, 0, 2));
        Checks.due("all pairs", 3, index.pairs(0, 0, GREATEST_FAR));
        Checks.due("all pairs, just so far", 3, index.pairs(0, 0, EDGE * EDGE * 2));
        Checks.due("all pairs but one", 2, index.pairs(0, 0, EDGE * EDGE * 2 - 1));
        Checks.due("all pairs of both", 6, index.pairs(0, other, GREATEST_FAR));
        Checks.due("one cluster", 1, index.clusters(0, GREATEST_FAR));
        Checks.due("of all", 3, index.greatest(0, GREATEST_FAR));
        Checks.due("one cluster of points", 1, index.clusters(other, EDGE * EDGE * 2));
        Checks.due("two clusters of points", 2, index.clusters(other, EDGE * EDGE * 2 - 1));
        Checks.due("all pairs of nodes", 1 + 2, index.visitedPairs(0, other, GREATEST_FAR));
        index.setSize(other, 1);
        Checks.due("all pairs of nodes, both with some below", 1 + 2 * 4, index.visitedPairs(0, other, GREATEST_FAR));
    }

    private static void firstAndLastOfAll() {
        CairnIndex index = new CairnIndex();
        index.addLayer(true);
        for (int x = 0; x < 80; x++) {
            index.addPoint(0, 79 - x, 0, 0);
        }
        Checks.says("Promise 20: k: which one, 1 for the first");
        Checks.due("the first", 79, index.nearest(0, 0, 0, 1));
        Checks.due("the 79th", 1, index.nearest(0, 0, 0, 79));
        Checks.due("the 80th", 0, index.nearest(0, 0, 0, 80));
        Checks.says("Promise 21: Returns how FAR the k-th NEAREST is");
        Checks.due("the first", 0, index.far(0, 0, 0, 1));
        Checks.due("the 80th", 79 * 79, index.far(0, 0, 0, 80));
        Checks.due("thing 0, from where it is", 0, index.nearest(0, 79, 0, 1));
        Checks.due("how FAR it is", 0, index.far(0, 79, 0, 1));
        Checks.says("Promise 22: Returns how many nodes are visited for it");
        Checks.due("thing 0, from where it is", index.leaf(0, 79, 0, 4) + 1, index.visitedFor(0, 79, 0, 1));
        Checks.due("the first", index.depth(0), index.visitedFor(0, 0, 0, 1));
        index.remove(40);
        Checks.says("Promise 20: Returns the k-th NEAREST; -1 without it");
        Checks.due("the 79th of 79", 0, index.nearest(0, 0, 0, 79));
        Checks.due("the 80th of 79", -1, index.nearest(0, 0, 0, 80));
        Checks.due("the FAR of the 80th of 79", -1, index.far(0, 0, 0, 80));
        Checks.due("all for the 80th of 79", index.nodes(0), index.visitedFor(0, 0, 0, 80));
    }

    private static void greatestFence() {
        Checks.says("Promise 30: Returns the area of the FENCE, by its CORNERS in order, without a sign, in halves of a unit");
        CairnIndex index = new CairnIndex();
        index.addLayer(true);
        Made.corners(index, 0, 0, EDGE, 0, EDGE, EDGE, 0, EDGE);
        Checks.due("the whole map", 2 * EDGE * EDGE, index.area());
        Made.corners(index, 0, 0, 0, EDGE, EDGE, EDGE, EDGE, 0);
        Checks.due("the whole map, the other way round", 2 * EDGE * EDGE, index.area());
        Made.corners(index, 0, 0, EDGE, 0, EDGE, EDGE, 0, EDGE, 0, 0, EDGE, 0, EDGE, EDGE, 0, EDGE);
        Checks.due("twice around", 4 * EDGE * EDGE, index.area());
        Made.corners(index, 3, 3, 4, 3, 3, 4);
        Checks.due("the smallest", 1, index.area());
        Made.corners(index, 3, 3, 3, 3, 3, 3);
        Checks.due("on one place", 0, index.area());
        Made.corners(index, 0, 0, EDGE, 0, EDGE, EDGE, 0, EDGE);
        index.addPoint(0, 0, 0, 0);
        index.addPoint(0, EDGE, EDGE, 9);
        index.addPoint(0, EDGE, 0, 9);
        index.addPoint(0, 0, EDGE, 9);
        Checks.says("Promise 29: a TAG; -1 for all");
        Checks.due("all", 4, index.inFence(0, -1));
        Checks.due("TAG 0", 1, index.inFence(0, 0));
        Checks.due("TAG 9", 3, index.inFence(0, 9));
        Checks.due("TAG 8", 0, index.inFence(0, 8));
    }

    public static void main(String[] args) {
        caps();
        fans();
        oneLeafAlone();
        sideOne();
        betweenTwoSquares();
        upToItsEnd();
        greatestThings();
        rowsAround();
        boxesOverTheBorder();
        farAt0();
        farAtItsGreatest();
        firstAndLastOfAll();
        greatestFence();
        Checks.end();
    }
}
