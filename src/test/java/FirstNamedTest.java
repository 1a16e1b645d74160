/** "If several exceptions apply, the one that is named first is thrown", for each promise that names several. */
public final class FirstNamedTest {
    private static final int P = Made.POINTS;
    private static final int B = Made.BOXES;

    private static void says(int promise) {
        Checks.says("Promise " + promise + ", If several exceptions apply, the one that is named first is thrown");
    }

    private static CairnIndex fullFence() {
        return Made.corners(Made.mixed(), 1, 1, 9, 1, 9, 9, 1, 9, 2, 8, 2, 2, 8, 2, 8, 8);
    }

    /** No layer, ahead of wrong arguments, with and without room for more. */
    private static void noLayerFirst(int promise, String name, Twins.OnNumber call) {
        says(promise);
        for (int layer : new int[] {-1, 2, 3, 4}) {
            Twins.refused(Twins.BOUNDS, name + " of layer " + layer, Made::mixed, index -> call.at(index, layer));
            Twins.refused(Twins.BOUNDS, name + " of layer " + layer + ", full", Made::full, index -> call.at(index, layer));
            Twins.refused(Twins.BOUNDS, name + " of layer " + layer + ", without layers", CairnIndex::new, index -> call.at(index, layer));
        }
    }

    private static void noLayer() {
        noLayerFirst(3, "setSize to 0", (i, l) -> i.setSize(l, 0));
        noLayerFirst(3, "setSize to 9", (i, l) -> i.setSize(l, 9));
        noLayerFirst(4, "addPoint at x -1", (i, l) -> i.addPoint(l, -1, 0, 0));
        noLayerFirst(4, "addPoint at y 1024", (i, l) -> i.addPoint(l, 0, 1024, 0));
        noLayerFirst(4, "addPoint with tag 10", (i, l) -> i.addPoint(l, 0, 0, 10));
        noLayerFirst(4, "addPoint", (i, l) -> i.addPoint(l, 0, 0, 0));
        noLayerFirst(5, "addBox at x -1", (i, l) -> i.addBox(l, -1, 0, 0, 0, 0));
        noLayerFirst(5, "addBox with w 201", (i, l) -> i.addBox(l, 0, 0, 201, 0, 0));
        noLayerFirst(5, "addBox with y + h 1024", (i, l) -> i.addBox(l, 0, 1000, 0, 24, 0));
        noLayerFirst(5, "addBox with tag -1", (i, l) -> i.addBox(l, 0, 0, 0, 0, -1));
        noLayerFirst(5, "addBox", (i, l) -> i.addBox(l, 0, 0, 0, 0, 0));
        noLayerFirst(6, "addRow of 0", (i, l) -> i.addRow(l, 0, 0, 0, 0, 0));
        noLayerFirst(6, "addRow of 31", (i, l) -> i.addRow(l, 0, 0, 0, 0, 31));
        noLayerFirst(6, "addRow at x 1024", (i, l) -> i.addRow(l, 1024, 0, 0, 0, 1));
        noLayerFirst(6, "addRow by -1", (i, l) -> i.addRow(l, 0, 0, 0, -1, 1));
        noLayerFirst(6, "addRow", (i, l) -> i.addRow(l, 0, 0, 0, 0, 1));
        noLayerFirst(15, "leaf at x -1", (i, l) -> i.leaf(l, -1, 0, 0));
        noLayerFirst(15, "leaf with what 5", (i, l) -> i.leaf(l, 0, 0, 5));
        noLayerFirst(16, "level -1", (i, l) -> i.level(l, -1));
        noLayerFirst(17, "node with what 5", (i, l) -> i.node(l, 0, 0, 5));
        noLayerFirst(18, "inBox at x -1", (i, l) -> i.inBox(l, -1, 0, 0, 0));
        noLayerFirst(18, "inBox with h 1024", (i, l) -> i.inBox(l, 0, 0, 0, 1024));
        noLayerFirst(19, "visited at y 1024", (i, l) -> i.visited(l, 0, 1024, 0, 0));
        noLayerFirst(19, "visited with w -1", (i, l) -> i.visited(l, 0, 0, -1, 0));
        noLayerFirst(20, "nearest to x -1", (i, l) -> i.nearest(l, -1, 0, 1));
        noLayerFirst(20, "nearest, k 0", (i, l) -> i.nearest(l, 0, 0, 0));
        noLayerFirst(21, "far of y 1024", (i, l) -> i.far(l, 0, 1024, 1));
        noLayerFirst(21, "far, k 81", (i, l) -> i.far(l, 0, 0, 81));
        noLayerFirst(22, "visitedFor x 1024", (i, l) -> i.visitedFor(l, 1024, 0, 1));
        noLayerFirst(22, "visitedFor, k 0", (i, l) -> i.visitedFor(l, 0, 0, 0));
        noLayerFirst(23, "pairs, far -1", (i, l) -> i.pairs(l, 0, -1));
        noLayerFirst(23, "pairs with it, far 3000001", (i, l) -> i.pairs(0, l, 3000001));
        noLayerFirst(24, "visitedPairs, far -1", (i, l) -> i.visitedPairs(l, 0, -1));
        noLayerFirst(24, "visitedPairs with it, far 3000001", (i, l) -> i.visitedPairs(0, l, 3000001));
        noLayerFirst(25, "clusters, far -1", (i, l) -> i.clusters(l, -1));
        noLayerFirst(26, "greatest, far 3000001", (i, l) -> i.greatest(l, 3000001));
        noLayerFirst(29, "inFence, tag 10", (i, l) -> i.inFence(l, 10));
        noLayerFirst(29, "inFence, tag -2", (i, l) -> i.inFence(l, -2));
        noLayerFirst(29, "inFence", (i, l) -> i.inFence(l, -1));
        noLayerFirst(32, "nodesWith 0", (i, l) -> i.nodesWith(l, 0));
        noLayerFirst(32, "nodesWith 9", (i, l) -> i.nodesWith(l, 9));
        noLayerFirst(33, "visitedPacked at x -1", (i, l) -> i.visitedPacked(l, -1, 0, 0, 0));
        noLayerFirst(33, "visitedPacked with w 1024", (i, l) -> i.visitedPacked(l, 0, 0, 1024, 0));
    }

    private static void noThing() {
        for (int thing : new int[] {4, 8, 10, -1}) {
            says(7);
            Twins.refused(Twins.BOUNDS, "move of " + thing + " to x -1", Made::mixed, index -> index.move(thing, -1, 0));
            Twins.refused(Twins.BOUNDS, "move of " + thing + " to y 1024", Made::mixed, index -> index.move(thing, 0, 1024));
            Twins.refused(Twins.BOUNDS, "move of " + thing + " out of the map", Made::mixed, index -> index.move(thing, 1023, 1023));
            says(12);
            Twins.refused(Twins.BOUNDS, "of " + thing + ", what 7", Made::mixed, index -> index.of(thing, 7));
            Twins.refused(Twins.BOUNDS, "of " + thing + ", what -1", Made::mixed, index -> index.of(thing, -1));
        }
    }

    private static void noNode() {
        says(17);
        for (int what : new int[] {-1, 5}) {
            Twins.refused(Twins.BOUNDS, "no such node, what " + what, Made::mixed, index -> index.node(B, 0, 3, what));
            Twins.refused(Twins.BOUNDS, "no such level, what " + what, Made::mixed, index -> index.node(B, 3, 0, what));
            Twins.refused(Twins.BOUNDS, "level -1, what " + what, Made::mixed, index -> index.node(B, -1, 0, what));
            Twins.refused(Twins.BOUNDS, "node -1, what " + what, Made::mixed, index -> index.node(B, 0, -1, what));
            Twins.refused(Twins.ARGUMENT, "a node of POINTS, what " + what, Made::mixed, index -> index.node(P, 0, 0, what));
        }
        Checks.says("Promise 17: Throws IndexOutOfBoundsException if there is, in one of BOXES, no such node");
        for (int wrong : new int[] {-1, 1, 1000}) {
            Twins.refused(Twins.ARGUMENT, "node " + wrong + " of POINTS", Made::mixed, index -> index.node(P, 0, wrong, 0));
            Twins.refused(Twins.ARGUMENT, "a node of POINTS on level " + wrong, Made::mixed, index -> index.node(P, wrong, 0, 0));
        }
    }

    /** Wrong arguments, ahead of what is full or not enough. */
    private static void noRoom() {
        says(4);
        full("a point in a layer of BOXES", index -> index.addPoint(B, 0, 0, 0));
        full("a point at x -1", index -> index.addPoint(P, -1, 0, 0));
        full("a point at y 1024", index -> index.addPoint(P, 0, 1024, 0));
        full("a point with tag 10", index -> index.addPoint(P, 0, 0, 10));
        says(5);
        full("a box in a layer of POINTS", index -> index.addBox(P, 0, 0, 0, 0, 0));
        full("a box at x 1024", index -> index.addBox(B, 1024, 0, 0, 0, 0));
        full("a box with w 201", index -> index.addBox(B, 0, 0, 201, 0, 0));
        full("a box with h -1", index -> index.addBox(B, 0, 0, 0, -1, 0));
        full("a box with x + w 1024", index -> index.addBox(B, 1000, 0, 24, 0, 0));
        full("a box with tag -1", index -> index.addBox(B, 0, 0, 0, 0, -1));
        says(6);
        full("a row in a layer of BOXES", index -> index.addRow(B, 0, 0, 0, 0, 1));
        full("a row at y -1", index -> index.addRow(P, 0, -1, 0, 0, 1));
        full("a row by 1024", index -> index.addRow(P, 0, 0, 1024, 0, 1));
        full("a row of 0", index -> index.addRow(P, 0, 0, 0, 0, 0));
        full("a row of 31", index -> index.addRow(P, 0, 0, 0, 0, 31));
        says(29);
        full("tag 10 without a fence", index -> index.inFence(P, 10));
        full("tag -2 without a fence", index -> index.inFence(B, -2));
        says(27);
        Twins.refused(Twins.STATE, "a ninth corner", FirstNamedTest::fullFence, index -> index.corner(0, 0));
        Twins.refused(Twins.ARGUMENT, "a ninth corner at x -1", FirstNamedTest::fullFence, index -> index.corner(-1, 0));
        Twins.refused(Twins.ARGUMENT, "a ninth corner at y 1024", FirstNamedTest::fullFence, index -> index.corner(0, 1024));
    }

    private static void full(String call, Twins.Act act) {
        Twins.refused(Twins.ARGUMENT, call, Made::full, act);
    }

    public static void main(String[] args) {
        noLayer();
        noThing();
        noNode();
        noRoom();
        Checks.end();
    }
}
