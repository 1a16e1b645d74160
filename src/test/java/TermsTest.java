/** The document's Terms where they name a border: how FAR, what is visited, what is IN a FENCE, what is a CLUSTER. */
public final class TermsTest {
    private static final int P = 0;
    private static final int B = 1;

    // ---- how FAR

    private static void dueFar(int due, int[] one, int[] other) {
        CairnIndex index = Made.twoEmpty();
        index.addBox(B, one[0], one[1], one[2], one[3], 0);
        index.addBox(B, other[0], other[1], other[2], other[3], 0);
        String told = java.util.Arrays.toString(one) + " and " + java.util.Arrays.toString(other);
        Checks.due(told + " within that", 1, index.pairs(B, B, due));
        Checks.due(told + " in one cluster", 1, index.clusters(B, due));
        if (due > 0) {
            Checks.due(told + " within one less", 0, index.pairs(B, B, due - 1));
            Checks.due(told + " in one cluster each", 2, index.clusters(B, due - 1));
        }
    }

    private static void dueFarOnAllSides(int due, int right, int up, int w, int h) {
        int[] middle = {500, 500, 10, 20};
        for (int side = 0; side < 4; side++) {
            int x = side % 2 == 0 ? 510 + right : 500 - right - w;
            int y = side / 2 == 0 ? 520 + up : 500 - up - h;
            int[] other = {x, y, w, h};
            dueFar(due, middle, other);
            dueFar(due, other, middle);
        }
    }

    private static void howFar() {
        Checks.says("How FAR two boxes are (a point is one, too) is dx * dx + dy * dy, with dx as by how much one of them is to the"
                + " right of the other one (0, if neither is), and dy likewise upwards");
        dueFarOnAllSides(0, 0, 0, 0, 0);
        dueFarOnAllSides(0, 0, 0, 7, 5);
        dueFarOnAllSides(1, 1, 0, 7, 5);
        dueFarOnAllSides(1, 0, 1, 7, 5);
        dueFarOnAllSides(2, 1, 1, 7, 5);
        dueFarOnAllSides(25, 3, 4, 0, 0);
        dueFarOnAllSides(25, 4, 3, 200, 200);
        dueFarOnAllSides(4, 2, -3, 1, 9);
        dueFarOnAllSides(9, -3, 3, 9, 1);
        dueFarOnAllSides(0, -3, -3, 1, 1);
        dueFarOnAllSides(0, -50, -60, 110, 120);
        dueFarOnAllSides(0, -50, -15, 90, 5);
        dueFarOnAllSides(90000, 300, -10, 0, 0);
        dueFar(1023 * 1023 * 2, new int[] {0, 0, 0, 0}, new int[] {1023, 1023, 0, 0});
        dueFar(1023 * 1023 * 2, new int[] {1023, 0, 0, 0}, new int[] {0, 1023, 0, 0});
        dueFar(623 * 623 * 2, new int[] {0, 0, 200, 200}, new int[] {823, 823, 200, 200});
    }

    private static void commonPoints() {
        Checks.says("It is all points from (x, y) to (x + w, y + h)");
        CairnIndex index = Made.twoEmpty();
        index.addBox(B, 100, 200, 30, 40, 0);
        for (int x : new int[] {99, 100, 115, 130, 131}) {
            for (int y : new int[] {199, 200, 220, 240, 241}) {
                boolean in = x >= 100 && x <= 130 && y >= 200 && y <= 240;
                Checks.due("the point " + x + ", " + y, in ? 1 : 0, index.inBox(B, x, y, 0, 0));
            }
        }
        Checks.due("up to the left edge", 1, index.inBox(B, 90, 210, 10, 0));
        Checks.due("short of the left edge", 0, index.inBox(B, 90, 210, 9, 0));
        Checks.due("up to the lower edge", 1, index.inBox(B, 110, 190, 0, 10));
        Checks.due("short of the lower edge", 0, index.inBox(B, 110, 190, 0, 9));
    }

    // ---- visiting

    private static void theRootIsVisited() {
        Checks.says("the root is visited, if there is one, and it is not FARTHER than that number");
        CairnIndex index = Made.packed(2, new int[] {100, 100, 10, 10}, new int[] {200, 300, 20, 30}, new int[] {150, 150, 0, 0});
        Checks.due("a corner of it", 2, index.visited(0, 220, 330, 9, 9));
        Checks.due("beside it", 0, index.visited(0, 221, 330, 9, 9));
        Checks.due("above it", 0, index.visited(0, 220, 331, 9, 9));
        Checks.due("to the left of it", 0, index.visited(0, 90, 90, 9, 1000));
        Checks.due("below it", 0, index.visited(0, 90, 90, 1000, 9));
        Checks.due("its lower corner", 2, index.visited(0, 90, 90, 10, 10));
        // A LOOSE thing that is nearer than the root: only what is within its FAR is visited.
        index.addBox(0, 250, 330, 0, 0, 0);
        Checks.due("from a LOOSE thing", 0, index.visitedFor(0, 251, 330, 1));
        Checks.due("from 30 aside to one 30 on", 2, index.visitedFor(0, 250, 330, 2));
        index.move(3, 279, 330);
        Checks.due("a LOOSE thing nearer by 1", 0, index.visitedFor(0, 250, 330, 1));
        index.move(3, 280, 330);
        Checks.due("a LOOSE thing as FAR as the root", 2, index.visitedFor(0, 250, 330, 1));
    }

    private static void whatIsRightBelow() {
        Checks.says("of a node that is visited all right below it that are not FARTHER are");
        CairnIndex index = Made.packed(2, new int[] {0, 0, 10, 10}, new int[] {0, 20, 10, 10}, new int[] {0, 100, 10, 10},
                new int[] {0, 120, 10, 10}, new int[] {400, 0, 10, 10});
        // Leaves up to y = 30, from 100 to 130, and the one at 400; the first and the last are put together.
        Checks.due("nodes", 6, index.nodes(0));
        Checks.due("in the first leaf", 3, index.visited(0, 10, 30, 0, 0));
        Checks.due("between the leaves, in the node", 2, index.visited(0, 11, 30, 0, 0));
        Checks.due("in the last leaf", 3, index.visited(0, 400, 10, 0, 0));
        Checks.due("in the second leaf", 3, index.visited(0, 10, 100, 0, 0));
        Checks.due("in the root alone", 1, index.visited(0, 11, 99, 0, 0));
        Checks.due("in two leaves of two nodes", 5, index.visited(0, 0, 30, 0, 70));
        Checks.due("one short of that", 3, index.visited(0, 0, 30, 0, 69));
    }

    private static void pairsThatAreVisited() {
        Checks.says("Promise 24: (one that is FARTHER is visited, but nothing below it)");
        CairnIndex index = Made.packed(2, new int[] {0, 0, 10, 10}, new int[] {0, 20, 10, 10}, new int[] {0, 100, 10, 10});
        int other = index.addLayer(true);
        int alone = index.addLayer(false);
        index.addBox(alone, 310, 530, 5, 5, 0);
        Checks.due("no root in the other one", 0, index.visitedPairs(0, alone, 3000000));
        index.pack(alone);
        int far = 300 * 300 + 420 * 420;
        Checks.due("the roots are FARTHER", 1, index.visitedPairs(0, alone, far - 1));
        Checks.due("they are not", 3, index.visitedPairs(0, alone, far));
        Checks.due("they are not, the other way round", 3, index.visitedPairs(alone, 0, far));
        Checks.due("both with a square alone", 3, index.visitedPairs(0, other, 0));
        Checks.says("Promise 24: if both have nodes below them, each right below the one with each right below the other");
        Checks.due("a tree with itself", 1 + 4, index.visitedPairs(0, 0, 0));
        index.setSize(other, 1);
        index.addPoint(other, 10, 10, 0);
        index.addPoint(other, 600, 10, 0);
        Checks.due("two with four", 1 + 8, index.visitedPairs(0, other, 0));
        index.addPoint(other, 300, 10, 0);
        // The first quarter has four more below it: two leaves of boxes, each with these four.
        Checks.due("two leaves with four more", 1 + 8 + 8, index.visitedPairs(0, other, 0));
        Checks.says("Promise 24: if only one has, each of these with the other one");
        Checks.due("a root alone with all of them", 1 + 4, index.visitedPairs(alone, other, 0));
        Checks.due("within 19, 1 less than it is to the first quarter", 1 + 4, index.visitedPairs(alone, other, 19 * 19 - 1));
        Checks.due("within 19", 1 + 4 + 4, index.visitedPairs(alone, other, 19 * 19));
    }

    // ---- fences

    private static void dueIn(CairnIndex index, int x, int y, boolean due) {
        index.move(0, x, y);
        Checks.due("whether the point " + x + ", " + y + " is in", due ? 1 : 0, index.inFence(P, -1));
    }

    private static CairnIndex fenceWithPoint(int... corners) {
        CairnIndex index = Made.twoEmpty();
        index.addPoint(P, 0, 0, 0);
        return Made.corners(index, corners);
    }

    private static void onAnEdge() {
        Checks.says("A point is IN it, if it is on one of its edges");
        CairnIndex square = fenceWithPoint(100, 100, 200, 100, 200, 200, 100, 200);
        for (int along = 100; along <= 200; along += 25) {
            dueIn(square, along, 100, true);
            dueIn(square, 200, along, true);
            dueIn(square, along, 200, true);
            dueIn(square, 100, along, true);
        }
        for (int along = 99; along <= 201; along += 102) {
            dueIn(square, along, 100, false);
            dueIn(square, 200, along, false);
            dueIn(square, along, 200, false);
            dueIn(square, 100, along, false);
        }
        for (int along = 100; along <= 200; along += 25) {
            dueIn(square, along, 99, false);
            dueIn(square, 201, along, false);
            dueIn(square, along, 201, false);
            dueIn(square, 99, along, false);
        }
        CairnIndex steep = fenceWithPoint(10, 10, 13, 19, 5, 19);
        dueIn(steep, 11, 13, true);
        dueIn(steep, 12, 16, true);
        dueIn(steep, 12, 15, false);
        dueIn(steep, 12, 17, true);
        dueIn(steep, 14, 22, false);
        dueIn(steep, 9, 7, false);
    }

    private static void backToTheFirst() {
        Checks.says("CORNERS, one behind the other, and back to the first one");
        // The last edge, from (10, 90) to (10, 10), is crossed or not, and is one of the edges.
        CairnIndex index = fenceWithPoint(10, 10, 90, 10, 90, 90, 10, 90);
        dueIn(index, 9, 50, false);
        dueIn(index, 10, 50, true);
        dueIn(index, 11, 50, true);
        CairnIndex right = fenceWithPoint(90, 90, 10, 90, 10, 10, 90, 10);
        dueIn(right, 9, 50, false);
        dueIn(right, 90, 50, true);
        dueIn(right, 89, 50, true);
        dueIn(right, 91, 50, false);
        CairnIndex threeOnly = fenceWithPoint(10, 10, 90, 10, 10, 90);
        dueIn(threeOnly, 10, 50, true);
        dueIn(threeOnly, 11, 50, true);
        dueIn(threeOnly, 50, 50, true);
        dueIn(threeOnly, 51, 50, false);
        Checks.due("a corner more", 4, threeOnly.corner(90, 90));
        dueIn(threeOnly, 51, 50, false);
        dueIn(threeOnly, 49, 50, false);
        dueIn(threeOnly, 60, 70, true);
    }

    private static void crossings() {
        Checks.says("or if a line from it to the right (x greater) crosses an odd number of them");
        // Two towers with a gap between them, from x = 40 to 60, above y = 30.
        CairnIndex towers = fenceWithPoint(20, 10, 80, 10, 80, 90, 60, 90, 60, 30, 40, 30, 40, 90, 20, 90);
        dueIn(towers, 10, 50, false);
        dueIn(towers, 30, 50, true);
        dueIn(towers, 50, 50, false);
        dueIn(towers, 70, 50, true);
        dueIn(towers, 90, 50, false);
        dueIn(towers, 50, 20, true);
        dueIn(towers, 50, 31, false);
        dueIn(towers, 50, 30, true);
        dueIn(towers, 30, 30, true);
        dueIn(towers, 10, 30, false);
        Checks.says("an edge is crossed, if just one of b and d is above y");
        // The line to the right goes through the corners at (50, 0), (100, 50), (50, 100), and along flat edges.
        CairnIndex diamond = fenceWithPoint(50, 0, 100, 50, 50, 100, 0, 50);
        dueIn(diamond, 20, 0, false);
        dueIn(diamond, 20, 100, false);
        dueIn(diamond, 20, 50, true);
        dueIn(diamond, 0, 50, true);
        dueIn(diamond, 101, 50, false);
        CairnIndex steps = fenceWithPoint(100, 0, 200, 0, 200, 50, 150, 50, 150, 80, 100, 80);
        dueIn(steps, 50, 50, false);
        dueIn(steps, 120, 50, true);
        dueIn(steps, 50, 0, false);
        dueIn(steps, 50, 80, false);
        dueIn(steps, 160, 51, false);
        dueIn(steps, 201, 50, false);
        CairnIndex teeth = fenceWithPoint(100, 0, 120, 40, 140, 0, 160, 40, 180, 0, 180, 90, 100, 90);
        dueIn(teeth, 50, 40, false);
        dueIn(teeth, 101, 40, true);
        dueIn(teeth, 110, 0, false);
        dueIn(teeth, 150, 10, false);
        dueIn(teeth, 130, 40, true);
        Checks.says("and the point of the edge with this y is to the right of x (not at x)");
        CairnIndex slope = fenceWithPoint(0, 0, 300, 0, 200, 300, 100, 300);
        dueIn(slope, 50, 150, true);
        dueIn(slope, 49, 150, false);
        dueIn(slope, 250, 150, true);
        dueIn(slope, 251, 150, false);
        dueIn(slope, 267, 100, false);
        dueIn(slope, 266, 100, true);
        dueIn(slope, 33, 100, false);
        dueIn(slope, 34, 100, true);
    }

    private static void dueBoxIn(boolean due, int x, int y, int w, int h) {
        CairnIndex index = Made.corners(Made.twoEmpty(), 100, 100, 200, 100, 200, 200, 100, 200);
        index.addBox(B, x, y, w, h, 6);
        String told = "whether the box " + x + ", " + y + ", " + w + ", " + h + " is in";
        Checks.due(told, due ? 1 : 0, index.inFence(B, -1));
        Checks.due(told + ", by its TAG", due ? 1 : 0, index.inFence(B, 6));
        Checks.due(told + ", by another TAG", 0, index.inFence(B, 5));
    }

    private static void middlesOfBoxes() {
        Checks.says("Of a BOX the point is its middle (halves kept)");
        dueBoxIn(true, 99, 150, 2, 0);
        dueBoxIn(false, 99, 150, 1, 0);
        dueBoxIn(false, 99, 150, 0, 0);
        dueBoxIn(true, 199, 150, 2, 0);
        dueBoxIn(true, 199, 150, 1, 0);
        dueBoxIn(false, 200, 150, 1, 0);
        dueBoxIn(false, 199, 150, 3, 0);
        dueBoxIn(true, 150, 99, 0, 2);
        dueBoxIn(false, 150, 99, 0, 1);
        dueBoxIn(true, 150, 199, 0, 1);
        dueBoxIn(false, 150, 200, 0, 1);
        dueBoxIn(true, 50, 50, 200, 200);
        dueBoxIn(true, 0, 0, 200, 200);
        dueBoxIn(false, 0, 0, 199, 200);
        dueBoxIn(false, 0, 0, 200, 199);
        dueBoxIn(true, 100, 100, 200, 200);
        dueBoxIn(false, 101, 100, 200, 200);
        dueBoxIn(false, 100, 102, 200, 197);
        // A slope from (0, 0) to (3, 1): only (1.5, 0.5) is on it between them.
        CairnIndex slope = Made.corners(Made.twoEmpty(), 0, 0, 3, 1, 0, 1000);
        slope.addBox(B, 1, 0, 1, 1, 0);
        Checks.due("the middle 1.5, 0.5", 1, slope.inFence(B, 0));
        slope.move(0, 2, 0);
        Checks.due("the middle 2.5, 0.5", 0, slope.inFence(B, 0));
    }

    // ---- clusters

    private static void clusters() {
        Checks.says("two THINGS that are not FARTHER than a number from each other are in one");
        CairnIndex index = Made.points(4, 0, 0, 3, 4, 100, 100);
        Checks.due("clusters within 24", 3, index.clusters(0, 24));
        Checks.due("clusters within 25", 2, index.clusters(0, 25));
        Checks.due("greatest within 24", 1, index.greatest(0, 24));
        Checks.due("greatest within 25", 2, index.greatest(0, 25));
        Checks.says("and so are those that are in one with the same");
        // 0 to 5 in a chain, by numbers here and there, and two more apart: the last to come joins both halves.
        CairnIndex chain = Made.points(4, 40, 0, 0, 0, 50, 0, 10, 0, 20, 0, 200, 0, 210, 0);
        Checks.due("two halves and a pair", 3, chain.clusters(0, 100));
        Checks.due("the greater half", 3, chain.greatest(0, 100));
        Checks.due("the one that joins them", 7, chain.addPoint(0, 30, 0, 0));
        Checks.due("all in a chain, and a pair", 2, chain.clusters(0, 100));
        Checks.due("all in a chain", 6, chain.greatest(0, 100));
        chain.remove(7);
        Checks.due("two halves again", 3, chain.clusters(0, 100));
        Checks.due("the greater half again", 3, chain.greatest(0, 100));
        Checks.says("one that has no such other one is a CLUSTER alone");
        Checks.due("all alone", 7, chain.clusters(0, 99));
        Checks.due("greatest of them", 1, chain.greatest(0, 99));
        Checks.due("one cluster", 1, chain.clusters(0, 150 * 150));
        Checks.due("two clusters", 2, chain.clusters(0, 150 * 150 - 1));
        Checks.says("CLUSTERS of a LAYER: of boxes, also LOOSE ones");
        CairnIndex boxes = Made.packed(2, new int[] {0, 0, 10, 10}, new int[] {14, 13, 5, 5});
        boxes.addLayer(false);
        boxes.addBox(1, 11, 11, 1, 1, 0);
        Checks.due("within 24", 2, boxes.clusters(0, 24));
        Checks.due("within 25", 1, boxes.clusters(0, 25));
        boxes.move(1, 15, 13);
        Checks.due("moved away, LOOSE", 2, boxes.clusters(0, 25));
        boxes.addBox(0, 12, 5, 1, 100, 0);
        Checks.due("joined by a LOOSE one", 1, boxes.clusters(0, 4));
        Checks.due("all three", 3, boxes.greatest(0, 4));
        Checks.due("not joined within 3", 3, boxes.clusters(0, 3));
    }

    public static void main(String[] args) {
        howFar();
        commonPoints();
        theRootIsVisited();
        whatIsRightBelow();
        pairsThatAreVisited();
        onAnEdge();
        backToTheFirst();
        crossings();
        middlesOfBoxes();
        clusters();
        Checks.end();
    }
}
