/** Promises 32 to 34. */
public final class WhatWouldBeTest {
    /** Layer 0 with five points, layer 1 with five boxes, all LOOSE. */
    private static CairnIndex twoLayers() {
        CairnIndex index = new CairnIndex();
        index.addLayer(true);
        index.addLayer(false);
        index.addRow(0, 0, 0, 255, 255, 5);
        for (int i = 0; i < 5; i++) {
            index.addBox(1, 100 * i, 0, 10, 10, i);
        }
        return index;
    }

    private static void unchanged(String call, CairnIndex index, Checks.Call made, int due) {
        String before = Snapshot.of(index);
        Checks.due(call, due, (long) made.answer());
        Checks.holds(call + " changed nothing", before.equals(Snapshot.of(index)));
    }

    private static void nodesWith() {
        CairnIndex index = twoLayers();
        unchanged("nodesWith(0, 4)", index, () -> index.nodesWith(0, 4), 5);
        unchanged("nodesWith(0, 5)", index, () -> index.nodesWith(0, 5), 1);
        unchanged("nodesWith(0, 8)", index, () -> index.nodesWith(0, 8), 1);
        // (0, 0), (255, 255) and (510, 510) share a quarter, and the first two its first quarter:
        // 255 and 0 are told apart on the next level.
        unchanged("nodesWith(0, 2)", index, () -> index.nodesWith(0, 2), 9);
        unchanged("nodesWith(0, 1)", index, () -> index.nodesWith(0, 1), 17);
        unchanged("nodesWith(1, 2)", index, () -> index.nodesWith(1, 2), 6);
        unchanged("nodesWith(1, 4)", index, () -> index.nodesWith(1, 4), 3);
        unchanged("nodesWith(1, 8)", index, () -> index.nodesWith(1, 8), 1);
        Checks.due("CAP as before", 4, index.setSize(0, 4));
        Checks.due("still LOOSE", 1, index.of(5, 6));
        Checks.due("still not packed", 0, index.nodes(1));
        index.pack(1);
        index.remove(9);
        unchanged("with one less", index, () -> index.nodesWith(1, 4), 1);
        Checks.due("packed with five", 3, index.nodes(1));
        int empty = index.addLayer(false);
        unchanged("without things", index, () -> index.nodesWith(empty, 4), 0);
        int alone = index.addLayer(true);
        unchanged("without points", index, () -> index.nodesWith(alone, 1), 1);
        Checks.noLayer(index, "no layer, first", () -> index.nodesWith(4, 0));
        Checks.badArgument(index, "CAP 0", () -> index.nodesWith(0, 0));
        Checks.badArgument(index, "CAP 9", () -> index.nodesWith(0, 9));
        Checks.badArgument(index, "FAN 1", () -> index.nodesWith(1, 1));
        Checks.badArgument(index, "FAN 9", () -> index.nodesWith(1, 9));
    }

    private static void visitedPacked() {
        CairnIndex index = twoLayers();
        // With FAN 4 the first four make a leaf, from 0 to 310; the last one is at 400 to 410.
        unchanged("within the first leaf", index, () -> index.visitedPacked(1, 310, 10, 0, 0), 2);
        unchanged("between the leaves", index, () -> index.visitedPacked(1, 311, 10, 0, 0), 1);
        unchanged("in both", index, () -> index.visitedPacked(1, 310, 10, 90, 0), 3);
        unchanged("above the root", index, () -> index.visitedPacked(1, 0, 11, 1023, 1023), 0);
        Checks.due("not packed by it", 0, index.visited(1, 310, 10, 90, 0));
        index.setSize(1, 8);
        unchanged("with FAN 8", index, () -> index.visitedPacked(1, 310, 10, 90, 0), 1);
        index.pack(1);
        index.move(9, 1000, 0);
        unchanged("as it is now", index, () -> index.visitedPacked(1, 1010, 0, 0, 0), 1);
        Checks.due("as it was packed", 0, index.visited(1, 1010, 0, 0, 0));
        int empty = index.addLayer(false);
        unchanged("without things", index, () -> index.visitedPacked(empty, 0, 0, 1023, 1023), 0);
        Checks.noLayer(index, "no layer, first", () -> index.visitedPacked(3, -1, 0, 0, 0));
        Checks.badArgument(index, "a layer of points", () -> index.visitedPacked(0, 0, 0, 0, 0));
        int[][] wrong = {{-1, 0, 0, 0}, {1024, 0, 0, 0}, {0, -1, 0, 0}, {0, 1024, 0, 0},
            {0, 0, -1, 0}, {0, 0, 1024, 0}, {0, 0, 0, -1}, {0, 0, 0, 1024}};
        for (int[] w : wrong) {
            Checks.badArgument(index, "visitedPacked " + java.util.Arrays.toString(w),
                    () -> index.visitedPacked(1, w[0], w[1], w[2], w[3]));
        }
    }

    private static long digestOf(long... numbers) {
        long d = 58069;
        for (long number : numbers) {
            d = d * 31 + number;
        }
        return d;
    }

    private static void digest() {
        CairnIndex index = new CairnIndex();
        Checks.due("of nothing", digestOf(0, 0), index.digest());
        index.addLayer(true);
        Checks.due("of an empty layer of points",
                digestOf(0, 0, 1, 1, 0, 1, -1, -1, 1, 0, 0, 1, 0), index.digest());
        index.addLayer(false);
        Checks.due("of two empty layers",
                digestOf(0, 0, 1, 1, 0, 1, -1, -1, 1, 0, 0, 1, 0, 0, 0, 0, 0, -1, -1, 0, 0, 0, 0, 0, 0), index.digest());
        index.addPoint(0, 512, 512, 7);
        index.addPoint(0, 500, 400, 3);
        index.addPoint(0, 512, 612, 3);
        index.addBox(1, 20, 30, 40, 50, 6);
        index.remove(0);
        index.pack(1);
        index.corner(0, 0);
        index.corner(2, 0);
        index.corner(0, 2);
        long[] things = {4, 1, 0, 500, 400, 0, 0, 3, 0, 2, 0, 512, 612, 0, 0, 3, 0, 3, 1, 20, 30, 40, 50, 6, 0};
        long[] points = {2, 1, 1, 1, 1, -1, -1, 1, 2, 1, 1};
        long[] boxes = {1, 1, 1, 0, 0, -1, -1, 1, 1, 1, 1};
        long[] rest = {1, 4};
        long[] all = java.util.stream.Stream.of(things, points, boxes, rest)
                .flatMapToLong(java.util.Arrays::stream).toArray();
        Checks.due("of all that", digestOf(all), index.digest());
        Checks.due("once more", digestOf(all), index.digest());
    }

    public static void main(String[] args) {
        nodesWith();
        visitedPacked();
        digest();
        Checks.end();
    }
}
