/** What stays and what goes, as things come, move and go, and trees are packed. */
public final class StaysAndGoesTest {
    /** Seven boxes in a row, packed by FAN 2: leaves of 0 and 1, 2 and 3, 4 and 5, 6; nodes of two each; the root. */
    private static CairnIndex seven() {
        int[][] places = new int[7][];
        for (int i = 0; i < 7; i++) {
            places[i] = new int[] {100 * i, 10 * i, 20, 5};
        }
        return Made.packed(2, places);
    }

    private static void dueSeven(CairnIndex index, int... left) {
        Checks.due("nodes", 7, index.nodes(0));
        Checks.due("depth", 3, index.depth(0));
        Checks.due("leaves", 4, index.level(0, 0));
        Checks.due("nodes above them", 2, index.level(0, 1));
        Checks.due("roots", 1, index.level(0, 2));
        Due.node(index, 0, 0, 0, 0, 120, 15, left[0]);
        Due.node(index, 0, 1, 200, 20, 120, 15, left[1]);
        Due.node(index, 0, 2, 400, 40, 120, 15, left[2]);
        Due.node(index, 0, 3, 600, 60, 20, 5, left[3]);
        Due.node(index, 1, 0, 0, 0, 320, 35, 2);
        Due.node(index, 1, 1, 400, 40, 220, 25, 2);
        Due.node(index, 2, 0, 0, 0, 620, 65, 2);
        Checks.due("all are visited", 7, index.visited(0, 0, 0, 1023, 1023));
        Checks.due("the last leaf is visited", 3, index.visited(0, 620, 65, 0, 0));
    }

    private static void oneThatGoes() {
        Checks.says("A THING that goes, or is moved, leaves its leaf; boxes stay as they are");
        CairnIndex index = seven();
        dueSeven(index, 2, 2, 2, 1);
        Checks.due("remove 0", 6, index.remove(0));
        dueSeven(index, 1, 2, 2, 1);
        Checks.due("remove 3", 5, index.remove(3));
        dueSeven(index, 1, 1, 2, 1);
        Checks.dueExactly("fullness", 5.0 / 4.0, index.fullness(0));
        Checks.says("boxes stay as they are, also of what has nothing in it any more");
        Checks.due("remove 1", 4, index.remove(1));
        Checks.due("remove 6", 3, index.remove(6));
        dueSeven(index, 0, 1, 2, 0);
        Checks.dueExactly("fullness", 3.0 / 4.0, index.fullness(0));
        for (int thing : new int[] {2, 4, 5}) {
            index.remove(thing);
        }
        dueSeven(index, 0, 0, 0, 0);
        Checks.dueExactly("fullness", 0.0, index.fullness(0));
        Checks.due("pairs of nodes that have nothing in them", 1 + 4 + 16, index.visitedPairs(0, 0, 90000));
        Checks.due("nodes, if it was packed now", 0, index.nodesWith(0, 2));
        Checks.due("pack", 0, index.pack(0));
    }

    private static void oneThatIsMoved() {
        Checks.says("A THING that goes, or is moved, leaves its leaf; boxes stay as they are");
        CairnIndex index = seven();
        Checks.due("move 2", 0, index.move(2, 201, 20));
        dueSeven(index, 2, 1, 2, 1);
        Checks.due("move 6", 383 * 383 + 735 * 735, index.move(6, 1003, 800));
        dueSeven(index, 2, 1, 2, 0);
        Checks.due("inBox where it was", 0, index.inBox(0, 600, 60, 20, 5));
        Checks.due("inBox where it is", 1, index.inBox(0, 1003, 800, 0, 0));
        Checks.due("visited where it is", 0, index.visited(0, 1003, 800, 0, 0));
        Checks.due("move 6 again", 383 * 383 + 735 * 735, index.move(6, 600, 60));
        dueSeven(index, 2, 1, 2, 0);
        Checks.due("remove one that is LOOSE", 6, index.remove(6));
        dueSeven(index, 2, 1, 2, 0);
    }

    private static void movedToWhereItIs() {
        Checks.says("(A BOX is LOOSE then, also if it is moved to where it is.)");
        CairnIndex index = seven();
        Due.of(index, 4, 0, 400, 40, 20, 5, 0, 0);
        Checks.due("move to where it is", 0, index.move(4, 400, 40));
        Due.of(index, 4, 0, 400, 40, 20, 5, 0, 1);
        dueSeven(index, 2, 2, 1, 1);
        Checks.dueExactly("fullness", 6.0 / 4.0, index.fullness(0));
        for (int thing : new int[] {0, 1, 2, 3, 5, 6}) {
            Checks.due("LOOSE", 0, index.of(thing, 6));
        }
        Checks.due("move it once more", 0, index.move(4, 400, 40));
        dueSeven(index, 2, 2, 1, 1);
        index.pack(0);
        Due.of(index, 4, 0, 400, 40, 20, 5, 0, 0);
        dueSeven(index, 2, 2, 2, 1);
        Checks.says("A POINT is never LOOSE");
        CairnIndex points = Made.points(4, 5, 5);
        Checks.due("move to where it is", 0, points.move(0, 5, 5));
        Due.of(points, 0, 0, 5, 5, 0, 0, 0, 0);
    }

    private static void loose() {
        Checks.says("Those that have come, or were moved, since it was PACKED last are LOOSE");
        CairnIndex index = Made.empty(false, false);
        for (int thing = 0; thing < 4; thing++) {
            index.addBox(thing % 2, 100 * thing, 0, 1, 1, 0);
        }
        dueLoose(index, 1, 1, 1, 1);
        index.pack(0);
        dueLoose(index, 0, 1, 0, 1);
        index.pack(1);
        dueLoose(index, 0, 0, 0, 0);
        index.addBox(0, 0, 0, 1, 1, 0);
        dueLoose(index, 0, 0, 0, 0, 1);
        index.move(1, 7, 7);
        dueLoose(index, 0, 1, 0, 0, 1);
        index.setSize(0, 2);
        index.remove(2);
        index.nodesWith(0, 2);
        index.visitedPacked(0, 0, 0, 0, 0);
        Checks.due("LOOSE, after what would be", 1, index.of(4, 6));
        Checks.due("LOOSE, packed", 0, index.of(0, 6));
        index.pack(0);
        Checks.due("packed now", 0, index.of(4, 6));
        Checks.due("LOOSE, of the other layer", 1, index.of(1, 6));
        Checks.says("(LOOSE THINGS are looked at one by one, and are no nodes.)");
        Checks.due("nodes", 1, index.nodes(1));
        Checks.due("visited where a LOOSE one is", 0, index.visited(1, 7, 7, 0, 0));
        Checks.due("inBox where it is", 1, index.inBox(1, 7, 7, 0, 0));
        Checks.due("nearest", 1, index.nearest(1, 7, 7, 1));
        Checks.due("pairs", 1, index.pairs(1, 1, 292 * 292 + 36));
        Checks.due("pairs, one less", 0, index.pairs(1, 1, 292 * 292 + 35));
    }

    private static void dueLoose(CairnIndex index, int... due) {
        for (int thing = 0; thing < due.length; thing++) {
            Checks.due("whether " + thing + " is LOOSE", due[thing], index.of(thing, 6));
        }
    }

    private static void sizesFromNowOn() {
        Checks.says("Promise 3: (a LAYER of BOXES is PACKED with it the next time)");
        CairnIndex index = seven();
        Checks.due("FAN before", 2, index.setSize(0, 8));
        dueSeven(index, 2, 2, 2, 1);
        Checks.due("FAN before", 8, index.setSize(0, 7));
        dueSeven(index, 2, 2, 2, 1);
        Checks.due("visited, if it was packed now", 1, index.visitedPacked(0, 0, 0, 1023, 1023));
        Checks.due("pack", 1, index.pack(0));
        Due.node(index, 0, 0, 0, 0, 620, 65, 7);
        Checks.due("FAN before", 7, index.setSize(0, 3));
        Checks.due("nodes as before", 1, index.nodes(0));
        Checks.due("pack", 4, index.pack(0));
        Checks.says("Promise 3: CAP or FAN from now on");
        CairnIndex points = Made.points(4, 0, 0, 600, 0, 0, 600, 600, 600);
        Checks.due("nodes with CAP 4", 1, points.nodes(0));
        Checks.due("CAP before", 4, points.setSize(0, 3));
        Checks.due("nodes with CAP 3, at once", 5, points.nodes(0));
        Checks.due("CAP before", 3, points.setSize(0, 4));
        Checks.due("nodes with CAP 4, at once", 1, points.nodes(0));
        CairnIndex two = Made.empty(true, true, false, false);
        two.setSize(0, 1);
        two.setSize(2, 2);
        Checks.due("CAP of another layer", 4, two.setSize(1, 2));
        Checks.due("FAN of another layer", 4, two.setSize(3, 3));
        Checks.due("CAP of the first", 1, two.setSize(0, 4));
        Checks.due("FAN of the first", 2, two.setSize(2, 4));
    }

    private static void pointsThatMoveAndGo() {
        Checks.says("all others are leaves, with their POINTS");
        CairnIndex index = Made.points(1, 100, 100, 900, 100);
        Checks.due("nodes", 5, index.nodes(0));
        Checks.due("move next to the other one", 700 * 700, index.move(0, 800, 100));
        // In the quarter at (512, 0), and in it 768 to 1023, 0 to 255: then 896 is between them.
        Checks.due("nodes", 13, index.nodes(0));
        Due.leaf(index, 100, 100, 0, 0, 512, 0, 1);
        Due.leaf(index, 800, 100, 768, 0, 128, 1, 3);
        Due.leaf(index, 900, 100, 896, 0, 128, 1, 3);
        Checks.due("move away", 700 * 700, index.move(0, 100, 100));
        Checks.due("nodes", 5, index.nodes(0));
        Checks.due("remove", 1, index.remove(1));
        Checks.due("nodes with one left", 1, index.nodes(0));
        Due.leaf(index, 900, 100, 0, 0, 1024, 1, 0);
        Checks.due("remove", 0, index.remove(0));
        Due.leaf(index, 900, 100, 0, 0, 1024, 0, 0);
    }

    private static void whatStaysWithMove() {
        Checks.says("Promise 7: Moves a THING; w, h and TAG stay");
        CairnIndex index = Made.mixed();
        Checks.due("move a box", 0, index.move(5, 40, 60));
        Due.of(index, 5, Made.BOXES, 40, 60, 30, 40, 5, 1);
        Checks.due("move a point", 10 * 10 + 20 * 20, index.move(1, 240, 250));
        Due.of(index, 1, Made.POINTS, 240, 250, 0, 0, 1, 0);
        Checks.due("things", 10, index.things());
        Checks.due("points", 4, index.size(Made.POINTS));
        Checks.due("boxes", 4, index.size(Made.BOXES));
        Checks.says("Promise 7: Returns how FAR the box that it is now is from the one that it was (0, if they have a point in common)");
        CairnIndex boxes = Made.packed(4, new int[][] {{100, 100, 10, 20}});
        Checks.due("right, a common edge", 0, boxes.move(0, 110, 100));
        Checks.due("left, a common edge", 0, boxes.move(0, 100, 100));
        Checks.due("up, a common edge", 0, boxes.move(0, 100, 120));
        Checks.due("down, a common edge", 0, boxes.move(0, 100, 100));
        Checks.due("a common corner", 0, boxes.move(0, 110, 120));
        Checks.due("the other common corner", 0, boxes.move(0, 100, 140));
        Checks.due("right by 1 more", 1, boxes.move(0, 111, 140));
        Checks.due("left by 1 more", 1, boxes.move(0, 100, 140));
        Checks.due("up by 1 more", 1, boxes.move(0, 100, 161));
        Checks.due("down by 1 more", 1, boxes.move(0, 100, 140));
        Checks.due("both by 1 more", 2, boxes.move(0, 89, 119));
    }

    private static void numbersOfThoseThatAreGone() {
        Checks.says("One that is taken away is GONE");
        CairnIndex index = Made.points(1, 10, 10, 20, 20, 30, 30);
        index.addLayer(false);
        Checks.due("remove the last", 2, index.remove(2));
        Checks.due("the next number", 3, index.addPoint(0, 40, 40, 4));
        Checks.due("remove the first", 2, index.remove(0));
        Checks.due("the next number", 4, index.addBox(1, 40, 40, 4, 4, 4));
        Checks.due("the next row", 5, index.addRow(0, 50, 50, 1, 1, 2));
        Checks.due("things there were ever", 7, index.things());
        Checks.due("size", 4, index.size(0));
        Checks.due("nearest", 1, index.nearest(0, 10, 10, 1));
        Checks.due("inBox", 0, index.inBox(0, 0, 0, 19, 19));
        Checks.due("pairs", 1, index.pairs(0, 0, 2));
        Checks.due("clusters", 3, index.clusters(0, 2));
        Checks.due("in the fence", 4, Made.corners(index, 0, 0, 1023, 0, 1023, 1023, 0, 1023).inFence(0, -1));
        Checks.says("Promise 8: Returns how many are left in its LAYER");
        Checks.due("remove a box", 0, index.remove(4));
        Checks.due("remove a point", 3, index.remove(6));
    }

    private static void cornersThatAreTakenAway() {
        Checks.says("Promise 28: Takes all CORNERS away");
        CairnIndex index = Made.points(4, 15, 15, 500, 500);
        Made.corners(index, 10, 10, 20, 10, 20, 20, 10, 20);
        Checks.due("in the fence", 1, index.inFence(0, -1));
        Checks.due("clear", 4, index.clear());
        Checks.due("area", 0, index.area());
        Checks.due("the first corner", 1, index.corner(490, 490));
        Checks.due("the second corner", 2, index.corner(520, 490));
        Checks.due("the third corner", 3, index.corner(490, 520));
        Checks.due("area", 900, index.area());
        Checks.due("in the new fence", 1, index.inFence(0, -1));
        index.remove(0);
        Checks.due("in the new fence still", 1, index.inFence(0, -1));
        Checks.due("clear", 3, index.clear());
        Checks.due("things are left", 1, index.size(0));
    }

    public static void main(String[] args) {
        oneThatGoes();
        oneThatIsMoved();
        movedToWhereItIs();
        loose();
        sizesFromNowOn();
        pointsThatMoveAndGo();
        whatStaysWithMove();
        numbersOfThoseThatAreGone();
        cornersThatAreTakenAway();
        Checks.end();
    }
}
