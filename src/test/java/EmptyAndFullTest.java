/** What is empty, full, or not there: every answer that the document names for it. */
public final class EmptyAndFullTest {
    private static final int P = Made.POINTS;
    private static final int B = Made.BOXES;
    private static final int ALL = 1023;

    // ---- no layer, four layers

    private static void withoutLayers() {
        Checks.says("Promise 1: Creates an index without LAYERS");
        CairnIndex index = new CairnIndex();
        Checks.due("things", 0, index.things());
        Checks.due("area", 0, index.area());
        Checks.due("clear", 0, index.clear());
        Checks.due("digest", (58069L * 31 + 0) * 31 + 0, index.digest());
        Checks.due("the first corner", 1, index.corner(0, 0));
        Checks.due("the first layer", 0, index.addLayer(false));
    }

    private static void fourLayers() {
        Checks.says("At most 4 LAYERS, numbered from 0, each of POINTS or of BOXES");
        for (int kinds = 0; kinds < 16; kinds++) {
            CairnIndex index = new CairnIndex();
            for (int layer = 0; layer < 4; layer++) {
                boolean isPoints = (kinds >> layer) % 2 == 0;
                Checks.due("addLayer", layer, index.addLayer(isPoints));
                Checks.due("the root of layer " + layer, isPoints ? 1 : 0, index.nodes(layer));
            }
            int before = index.things();
            for (int layer = 0; layer < 4; layer++) {
                boolean isPoints = (kinds >> layer) % 2 == 0;
                int thing = isPoints ? index.addPoint(layer, 9, 9, 0) : index.addBox(layer, 9, 9, 9, 9, 0);
                Checks.due("the thing of layer " + layer, before + layer, thing);
                Checks.due("its layer", layer, index.of(thing, 0));
                Checks.due("things of layer " + layer, 1, index.size(layer));
            }
        }
    }

    // ---- layers without things

    /** The answers that are the same for each layer without things. */
    private static void dueOfNoThings(CairnIndex index, int layer) {
        Checks.due("size", 0, index.size(layer));
        Checks.due("inBox", 0, index.inBox(layer, 0, 0, ALL, ALL));
        Checks.due("nearest", -1, index.nearest(layer, 0, 0, 1));
        Checks.due("far", -1, index.far(layer, 0, 0, 1));
        Checks.due("pairs", 0, index.pairs(layer, layer, 3000000));
        Checks.due("clusters", 0, index.clusters(layer, 0));
        Checks.due("clusters within a great number", 0, index.clusters(layer, 3000000));
        Made.corners(index, 0, 0, ALL, 0, ALL, ALL, 0, ALL);
        Checks.due("inFence", 0, index.inFence(layer, -1));
        Checks.dueExactly("fullness", 0.0, index.fullness(layer));
    }

    private static void dueRootAlone(CairnIndex index, int layer) {
        dueOfNoThings(index, layer);
        Checks.due("nodes", 1, index.nodes(layer));
        Checks.due("depth", 1, index.depth(layer));
        int[] root = {0, 0, 1024, 0, 0};
        for (int what = 0; what <= 4; what++) {
            Checks.due("leaf, what " + what, root[what], index.leaf(layer, ALL, 0, what));
        }
        Checks.due("visited", 1, index.visited(layer, ALL, ALL, 0, 0));
        Checks.due("visitedFor", 1, index.visitedFor(layer, 0, 0, 1));
        Checks.due("visitedPairs", 1, index.visitedPairs(layer, layer, 0));
        Checks.due("nodesWith", 1, index.nodesWith(layer, 1));
    }

    private static void pointsWithoutThings() {
        Checks.says("The root is the square from (0, 0), with the SIDE 1024. (It is there without POINTS, too.)");
        CairnIndex index = Made.twoEmpty();
        dueRootAlone(index, P);
        index.setSize(P, 1);
        int first = index.addRow(P, 0, 0, 100, 100, 10);
        for (int thing = first; thing < first + 10; thing++) {
            index.remove(thing);
        }
        dueRootAlone(index, P);
    }

    private static void dueNoRoot(CairnIndex index, int layer) {
        dueOfNoThings(index, layer);
        Checks.due("nodes", 0, index.nodes(layer));
        Checks.due("depth", 0, index.depth(layer));
        Checks.due("level 0", 0, index.level(layer, 0));
        Checks.due("level 1", 0, index.level(layer, 1));
        Checks.due("visited", 0, index.visited(layer, 0, 0, ALL, ALL));
        Checks.due("visitedFor", 0, index.visitedFor(layer, 0, 0, 1));
        Checks.due("visitedPairs", 0, index.visitedPairs(layer, layer, 3000000));
        Checks.due("visitedPairs with points", 0, index.visitedPairs(layer, P, 3000000));
        Checks.due("visitedPairs of points with it", 0, index.visitedPairs(P, layer, 3000000));
        Checks.due("nodesWith", 0, index.nodesWith(layer, 2));
        Checks.due("visitedPacked", 0, index.visitedPacked(layer, 0, 0, ALL, ALL));
    }

    private static void boxesWithoutThings() {
        Checks.says("Without THINGS, as it is PACKED, there is none");
        CairnIndex index = Made.twoEmpty();
        dueNoRoot(index, B);
        Checks.due("pack", 0, index.pack(B));
        dueNoRoot(index, B);
        for (int i = 0; i < 5; i++) {
            index.addBox(B, i, i, i, i, 0);
        }
        Checks.due("pack of 5", 3, index.pack(B));
        for (int thing = 0; thing < 5; thing++) {
            index.remove(thing);
        }
        Checks.due("nodes, not packed since", 3, index.nodes(B));
        Checks.due("pack of those that are gone", 0, index.pack(B));
        dueNoRoot(index, B);
        Checks.due("a box more", 5, index.addBox(B, 1, 1, 1, 1, 1));
        Checks.due("pack of it", 1, index.pack(B));
    }

    private static void aheadOfPacking() {
        Checks.says("Promise 13: one of BOXES as it was PACKED last; 0 ahead of that");
        CairnIndex index = Made.twoEmpty();
        for (int i = 0; i < 9; i++) {
            index.addBox(B, 10 * i, 0, 5, 5, 0);
            Checks.due("nodes ahead of that", 0, index.nodes(B));
        }
        index.move(3, 500, 500);
        index.remove(8);
        Checks.due("nodes ahead of that", 0, index.nodes(B));
        Checks.due("pack of 8", 3, index.pack(B));
        Checks.due("nodes", 3, index.nodes(B));
        for (int i = 0; i < 9; i++) {
            index.addBox(B, 10 * i, 0, 5, 5, 0);
        }
        index.setSize(B, 2);
        index.remove(0);
        index.move(1, 700, 700);
        Checks.due("nodes, not packed since", 3, index.nodes(B));
        // 16 by FAN 2: 8, 4, 2 and 1.
        Checks.due("pack of 16", 15, index.pack(B));
        Checks.due("nodes", 15, index.nodes(B));
    }

    // ---- eighty things

    private static void eightyThings() {
        Checks.says("At most 80 THINGS ever, numbered from 0 over all");
        CairnIndex index = Made.twoEmpty();
        for (int thing = 0; thing < 80; thing++) {
            int added = thing % 2 == 0 ? index.addPoint(P, thing, thing, 1) : index.addBox(B, thing, 9, 1, 1, 2);
            Checks.due("the number", thing, added);
            Checks.due("things", thing + 1, index.things());
        }
        Checks.due("points", 40, index.size(P));
        Checks.due("boxes", 40, index.size(B));
        Checks.due("pack", 14, index.pack(B));
        for (int thing = 0; thing < 80; thing++) {
            Checks.due("remove", 39 - thing / 2, index.remove(thing));
            Checks.due("things ever", 80, index.things());
        }
    }

    private static CairnIndex allGone() {
        CairnIndex index = Made.full();
        for (int thing = 1; thing < 80; thing++) {
            if (thing != 39 && thing != 40) {
                index.remove(thing);
            }
        }
        return index;
    }

    private static void eightyThingsThatAreGone() {
        Checks.says("At most 80 THINGS ever (those that are GONE counted)");
        for (Twins.Maker maker : new Twins.Maker[] {Made::full, EmptyAndFullTest::allGone}) {
            Twins.refused(Twins.STATE, "a point more", maker, index -> index.addPoint(P, 0, 0, 0));
            Twins.refused(Twins.STATE, "a box more", maker, index -> index.addBox(B, 0, 0, 0, 0, 0));
            Twins.refused(Twins.STATE, "a row more", maker, index -> index.addRow(P, 0, 0, 0, 0, 1));
            Twins.allowed("things", 80, maker, index -> index.things());
        }
        Twins.allowed("points left", 0, EmptyAndFullTest::allGone, index -> index.size(P));
        Twins.allowed("boxes left", 0, EmptyAndFullTest::allGone, index -> index.size(B));
        Twins.allowed("the row up to 80, with some gone", 75, () -> Made.crowded(75), index -> index.addRow(P, 0, 0, 1, 1, 5));
        Twins.refused(Twins.STATE, "one more in it", () -> Made.crowded(75), index -> index.addRow(P, 0, 0, 1, 1, 6));
    }

    // ---- fences

    private static void fenceOfSoMany() {
        Checks.says("A FENCE has 3 to 8 CORNERS, one behind the other, and back to the first one");
        // Round the point (500, 500), and each of them with all ahead of it has the point in it, from the third on.
        int[] places = {500, 0, 1000, 900, 10, 900, 0, 800, 0, 700, 0, 600, 0, 500, 0, 400};
        CairnIndex index = Made.twoEmpty();
        index.addPoint(P, 500, 500, 3);
        index.addBox(B, 499, 500, 2, 1, 4);
        Checks.badState(index, "inFence without corners", () -> index.inFence(P, -1));
        for (int corners = 1; corners <= 8; corners++) {
            Checks.due("corner", corners, index.corner(places[2 * corners - 2], places[2 * corners - 1]));
            if (corners < 3) {
                Checks.badState(index, "inFence with " + corners, () -> index.inFence(P, -1));
            } else {
                Checks.due("the point, with " + corners, 1, index.inFence(P, -1));
                Checks.due("the box, with " + corners, 1, index.inFence(B, 4));
                Checks.due("of another tag, with " + corners, 0, index.inFence(P, 4));
            }
        }
        Checks.badState(index, "a ninth corner", () -> index.corner(5, 5));
        Checks.due("the point, after that", 1, index.inFence(P, 3));
        Checks.due("clear", 8, index.clear());
        Checks.badState(index, "inFence after clear", () -> index.inFence(P, -1));
        Checks.due("clear again", 0, index.clear());
        Checks.due("a corner after that", 1, index.corner(5, 5));
        Checks.due("clear of one", 1, index.clear());
    }

    private static void areaOfFew() {
        Checks.says("Promise 30: 0 with fewer than 3");
        CairnIndex index = new CairnIndex();
        Checks.due("area without corners", 0, index.area());
        index.corner(1000, 1);
        Checks.due("area with 1", 0, index.area());
        index.corner(7, 1000);
        Checks.due("area with 2", 0, index.area());
        index.corner(0, 0);
        Checks.due("area with 3", 1000 * 1000 - 7, index.area());
        index.clear();
        Checks.due("area after clear", 0, index.area());
        index.corner(1000, 1);
        index.corner(7, 1000);
        Checks.due("area with 2 after clear", 0, index.area());
        index.corner(8, 1000);
        Checks.due("area with 3 after clear", 999, index.area());
    }

    // ---- what is not there

    private static void withoutTheNearest() {
        CairnIndex index = Made.twoEmpty();
        index.addRow(P, 10, 0, 10, 0, 7);
        index.remove(3);
        for (int i = 0; i < 3; i++) {
            index.addBox(B, 100 * i, 0, 10, 0, 0);
        }
        index.pack(B);
        index.move(8, 300, 0);
        Checks.says("Promise 20: Returns the k-th NEAREST; -1 without it");
        Checks.due("the sixth of six", 6, index.nearest(P, 0, 0, 6));
        Checks.due("the seventh of six", -1, index.nearest(P, 0, 0, 7));
        Checks.due("the 80th of six", -1, index.nearest(P, 0, 0, 80));
        Checks.due("the third of three boxes", 8, index.nearest(B, 0, 0, 3));
        Checks.due("the fourth of three boxes", -1, index.nearest(B, 0, 0, 4));
        Checks.says("Promise 21: Returns how FAR the k-th NEAREST is; -1 without it");
        Checks.due("the sixth of six", 70 * 70, index.far(P, 0, 0, 6));
        Checks.due("the seventh of six", -1, index.far(P, 0, 0, 7));
        Checks.due("the 80th of six", -1, index.far(P, 0, 0, 80));
        Checks.due("the third of three boxes", 300 * 300, index.far(B, 0, 0, 3));
        Checks.due("the fourth of three boxes", -1, index.far(B, 0, 0, 4));
        Checks.says("Promise 22: all, if there is no k-th");
        // The squares at (0, 0) with the sides 1024 to 64 have more than four each, so 5 * 4 are below them. Within
        // 70 * 70 of (0, 0) are the first of the sides 1024 to 128, three of the side 64, and four of the side 32.
        Checks.due("nodes", 21, index.nodes(P));
        Checks.due("for the sixth of six", 4 + 3 + 4, index.visitedFor(P, 0, 0, 6));
        Checks.due("for the seventh of six", 21, index.visitedFor(P, 0, 0, 7));
        Checks.due("for the 80th of six", 21, index.visitedFor(P, 0, 0, 80));
        index.setSize(B, 2);
        index.addBox(B, 900, 900, 10, 10, 0);
        index.pack(B);
        Checks.due("nodes of boxes", 3, index.nodes(B));
        Checks.due("for the first of four boxes", 2, index.visitedFor(B, 0, 0, 1));
        Checks.due("for the fifth of four boxes", 3, index.visitedFor(B, 0, 0, 5));
    }

    private static void withoutNodesOrLeaves() {
        CairnIndex index = Made.twoEmpty();
        index.addBox(B, 1, 1, 1, 1, 1);
        Checks.says("Promise 14: 0 without nodes");
        Checks.due("depth, LOOSE ones alone", 0, index.depth(B));
        Checks.says("Promise 31: 0 without leaves");
        Checks.dueExactly("fullness, LOOSE ones alone", 0.0, index.fullness(B));
        Checks.says("Promise 16: 0 without such ones");
        Checks.due("level 0, LOOSE ones alone", 0, index.level(B, 0));
        index.pack(B);
        Checks.due("level 0", 1, index.level(B, 0));
        Checks.due("level 1, above the root", 0, index.level(B, 1));
        Checks.due("level 1000", 0, index.level(B, 1000));
        Checks.due("the greatest level", 0, index.level(B, Integer.MAX_VALUE));
        Checks.says("Promise 14: from the root to a leaf, at the most, both counted");
        Checks.due("depth of a leaf alone", 1, index.depth(B));
        Checks.says("Promise 31: Returns the mean of how many THINGS a leaf has");
        Checks.dueExactly("fullness of a leaf alone", 1.0, index.fullness(B));
        index.remove(0);
        Checks.dueExactly("fullness of a leaf with nothing left", 0.0, index.fullness(B));
        Checks.due("depth of a leaf with nothing left", 1, index.depth(B));
    }

    private static void withoutClusters() {
        CairnIndex index = Made.twoEmpty();
        Checks.says("Promise 26: 0 without any");
        Checks.due("greatest of no points", 0, index.greatest(P, 3000000));
        Checks.due("greatest of no boxes", 0, index.greatest(B, 0));
        index.addPoint(P, 5, 5, 5);
        Checks.due("greatest of one point", 1, index.greatest(P, 0));
        Checks.due("greatest of no boxes, with a point there", 0, index.greatest(B, 3000000));
        index.remove(0);
        Checks.due("greatest of one that is gone", 0, index.greatest(P, 3000000));
    }

    public static void main(String[] args) {
        withoutLayers();
        fourLayers();
        pointsWithoutThings();
        boxesWithoutThings();
        aheadOfPacking();
        eightyThings();
        eightyThingsThatAreGone();
        fenceOfSoMany();
        areaOfFew();
        withoutTheNearest();
        withoutNodesOrLeaves();
        withoutClusters();
        Checks.end();
    }
}
