/** Questions, and what would be: each of them leaves every later answer as it was. */
public final class ChangesNothingTest {
    private static final int P = Made.POINTS;
    private static final int B = Made.BOXES;
    private static final int EDGE = 1023;

    private static CairnIndex looseOnly() {
        CairnIndex index = Made.twoEmpty();
        for (int i = 0; i < 12; i++) {
            index.addBox(B, i * 70, i * i, i, 3 * i, i % 10);
            index.addPoint(P, i, i * 80, i % 10);
        }
        return index;
    }

    private static final Twins.Maker[] MAKERS = {Made::mixed, Made::full, Made::twoEmpty, ChangesNothingTest::looseOnly};

    private static void everywhere(String call, Twins.Act act) {
        for (Twins.Maker maker : MAKERS) {
            Twins.unchanged(call, maker, act);
        }
    }

    private static void whatWouldBe() {
        Checks.says("---- what would be (nothing is changed): nodesWith");
        for (int size = 1; size <= 8; size++) {
            int asked = size;
            everywhere("nodesWith of points", index -> index.nodesWith(P, asked));
            if (size > 1) {
                everywhere("nodesWith of boxes", index -> index.nodesWith(B, asked));
            }
        }
        Checks.says("---- what would be (nothing is changed): visitedPacked");
        everywhere("visitedPacked of all", index -> index.visitedPacked(B, 0, 0, EDGE, EDGE));
        everywhere("visitedPacked of a place", index -> index.visitedPacked(B, 5, 5, 0, 0));
        Checks.says("---- what would be (nothing is changed): digest");
        everywhere("digest", index -> index.digest());
        Checks.says("---- what would be (nothing is changed): all of them, by turns");
        everywhere("all of them", index -> {
            double sum = 0;
            for (int turn = 0; turn < 4; turn++) {
                sum += index.nodesWith(turn % 2, 2 + turn) + index.digest() + index.visitedPacked(B, turn, turn, 9, 9);
                sum += index.nodesWith(1 - turn % 2, 8);
            }
            return sum;
        });
    }

    private static void whatWouldBeIsAnswered() {
        CairnIndex index = looseOnly();
        Checks.says("Promise 32: Returns how many nodes its tree would have with that (a LAYER of BOXES, if it was PACKED now)");
        // 6, 3, 2 and 1; 4, 2 and 1; 3 and 1; 3 and 1; then 2 and 1.
        int[] due = {0, 0, 12, 7, 4, 4, 3, 3, 3};
        for (int size = 2; size <= 8; size++) {
            Checks.due("nodesWith(1, " + size + ")", due[size], index.nodesWith(B, size));
        }
        Checks.due("nodes, not packed", 0, index.nodes(B));
        Checks.due("LOOSE", 1, index.of(0, 6));
        Checks.due("FAN as before", 4, index.setSize(B, 4));
        Checks.due("pack", 4, index.pack(B));
        Checks.due("nodesWith what it has", 4, index.nodesWith(B, 4));
        Checks.says("Promise 33: Returns how many nodes would be visited, if it was PACKED now");
        index.move(0, 900, 900);
        Checks.due("visitedPacked where it is", 2, index.visitedPacked(B, 900, 900, 0, 0));
        Checks.due("visitedPacked to the right of all", 0, index.visitedPacked(B, 901, 900, 0, 0));
        Checks.due("visited where it is", 0, index.visited(B, 900, 900, 0, 0));
        index.setSize(B, 8);
        index.remove(2);
        Checks.due("visitedPacked by FAN 8", 3, index.visitedPacked(B, 0, 0, EDGE, EDGE));
        Checks.due("visited by FAN 4", 4, index.visited(B, 0, 0, EDGE, EDGE));
        Checks.due("pack", 3, index.pack(B));
        Checks.due("visited by FAN 8", 3, index.visited(B, 0, 0, EDGE, EDGE));
        Checks.due("visited where 0 is", 2, index.visited(B, 900, 900, 0, 0));
    }

    private static void questions() {
        Checks.says("Nothing is promised beyond the answers and state changes described above");
        everywhere("things", index -> index.things());
        everywhere("area", index -> index.area());
        for (int l = 0; l <= 1; l++) {
            int layer = l;
            int place = l == 0 ? 512 : 40;
            everywhere("size", index -> index.size(layer));
            everywhere("nodes", index -> index.nodes(layer));
            everywhere("depth", index -> index.depth(layer));
            everywhere("fullness", index -> index.fullness(layer));
            everywhere("inBox", index -> index.inBox(layer, place, place, 300, 300));
            everywhere("visited", index -> index.visited(layer, place, place, 300, 300));
            everywhere("nearest", index -> index.nearest(layer, place, place, 3));
            everywhere("far", index -> index.far(layer, place, place, 80));
            everywhere("visitedFor", index -> index.visitedFor(layer, place, place, 2));
            everywhere("pairs", index -> index.pairs(layer, 1 - layer, 90000));
            everywhere("visitedPairs", index -> index.visitedPairs(layer, 1 - layer, 90000));
            everywhere("clusters", index -> index.clusters(layer, 90000));
            everywhere("greatest", index -> index.greatest(layer, 3000000));
        }
        everywhere("leaf", index -> index.leaf(P, 512, 511, 2));
        everywhere("level", index -> index.level(B, 0));
        Twins.unchanged("node", Made::mixed, index -> index.node(B, 1, 1, 4));
        Twins.unchanged("of", Made::mixed, index -> index.of(7, 6));
        Twins.unchanged("inFence", Made::mixed, index -> index.inFence(P, -1) + index.inFence(B, 5));
    }

    /** Clusters of one layer, asked by turns with another number, layer or kind of question. */
    private static void answersByTurns() {
        Checks.says("What one question needs does not touch the next one");
        CairnIndex index = Made.mixed();
        for (int turn = 0; turn < 3; turn++) {
            // The points stand 198 from each other, thing 4 is gone.
            Checks.due("clusters, all alone", 4, index.clusters(P, 150 * 150 + 130 * 130 - 1));
            Checks.due("greatest, all in one", 4, index.greatest(P, 150 * 150 + 130 * 130));
            Checks.due("nearest of points", 0, index.nearest(P, 0, 0, 1));
            Checks.due("clusters of boxes, all alone", 4, index.clusters(B, 0));
            Checks.due("nearest of boxes", 5, index.nearest(B, 0, 0, 1));
            Checks.due("nodesWith of boxes", 1, index.nodesWith(B, 4));
            Checks.due("greatest of boxes, all in one", 4, index.greatest(B, 3000000));
            Checks.due("nodes of boxes", 6, index.nodes(B));
            Checks.due("clusters, all in one", 1, index.clusters(P, 3000000));
            Checks.due("greatest, all alone", 1, index.greatest(P, 0));
        }
    }

    private static void anotherObject() {
        Checks.says("Creates an index without LAYERS, whatever others hold");
        CairnIndex one = Made.mixed();
        Twins.unchanged("calls on another object", Made::mixed, index -> {
            CairnIndex other = new CairnIndex();
            long sum = other.digest();
            other.addLayer(false);
            other.addLayer(true);
            other.addBox(0, 1, 2, 3, 4, 5);
            other.addRow(1, 1, 2, 3, 4, 5);
            other.pack(0);
            other.setSize(1, 1);
            other.corner(1, 1);
            return sum + other.nodesWith(0, 2) + other.clusters(1, 9) + other.nearest(1, 9, 9, 1);
        });
        Checks.due("a new one has no things", 0, new CairnIndex().things());
        Checks.due("the first has its own", 10, one.things());
    }

    public static void main(String[] args) {
        whatWouldBe();
        whatWouldBeIsAnswered();
        questions();
        answersByTurns();
        anotherObject();
        Checks.end();
    }
}
