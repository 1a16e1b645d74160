/** Promises 32 to 34. */
public final class WhatWouldBeTest {
    /** Layer 0 with five points, layer 1 with five boxes, all LOOSE. */
    private static CairnIndex twoLayers() {
        CairnIndex index = Made.twoEmpty();
        index.addRow(0, 0, 0, 255, 255, 5);
        for (int i = 0; i < 5; i++) {
            index.addBox(1, 100 * i, 0, 10, 10, i);
        }
        return index;
    }

    private static void unchanged(String call, CairnIndex index, Checks.Call made, int due) {
        String before = Snapshot.of(index);
        Checks.due(call, due, (long) made.answer());
        Checks.holds(call + " changed nothing", before.equals(Snapshot.of(index)));
    }

    private static void nodesWith() {
        CairnIndex index = twoLayers();
        unchanged("nodesWith(0, 4)", index, () -> index.nodesWith(0, 4), 5);
        unchanged("nodesWith(0, 5)", index, () -> index.nodesWith(0, 5), 1);
        unchanged("nodesWith(0, 8)", index, () -> index.nodesWith(0, 8), 1);
        // (0, 0), (255, 255) and (510, 510) share a quarter, and the first two its first quarter:
        // 255 and 0 are told apart on the next level.
        unchanged("nodesWith(0, 2)", index, () -> index.nodesWith(0, 2), 9);
        unchanged("nodesWith(0, 1)", index, () -> index.nodesWith(0, 1), 17);
        unchanged("nodesWith(1, 2)", index, () -> index.nodesWith(1, 2), 6);
        unchanged("nodesWith(1, 4)", index, () -> index.nodesWith(1, 4), 3);
        unchanged("nodesWith(1, 8)", index, () -> index.nodesWith(1, 8), 1);
        Checks.due("CAP as before", 4, index.setSize(0, 4));
        Checks.due("still LOOSE", 1, index.of(5, 6));
        Checks.due("still not packed", 0, index.nodes(1));
        index.pack(1);
        index.remove(9);
        unchanged("with one less", index, () -> index.nodesWith(1, 4), 1);
        Checks.due("packed with five", 3, index.nodes(1));
        int empty = index.addLayer(false);
        unchanged("without things", index, () -> index.nodesWith(empty, 4), 0);
        int alone = index.addLayer(true);
        unchanged("without points", index, () -> index.nodesWith(alone, 1), 1);
        Checks.noLayer(index, "no layer, first", () -> index.nodesWith(4, 0));
        Checks.badArgument(index, "CAP 0", () -> index.nodesWith(0, 0));
        Checks.badArgument(index, "CAP 9", () -> index.nodesWith(0, 9));
        Checks.badArgument(index, "FAN 1", () -> index.nodesWith(1, 1));
        Checks.badArgument(index, "FAN 9", () -> index.nodesWith(1, 9));
    }

    private static void visitedPacked() {
        CairnIndex index = twoLayers();
        // With FAN 4 the first four make a leaf, from 0 to 310; the last one is at 400 to 410.
        unchanged("within the first leaf", index, () -> index.visitedPacked(1, 310, 10, 0, 0), 2);
        unchanged("between the leaves", index, () -> index.visitedPacked(1, 311, 10, 0, 0), 1);
        unchanged("in both", index, () -> index.visitedPacked(1, 310, 10, 90, 0), 3);
        unchanged("above the root", index, () -> index.visitedPacked(1, 0, 11, 1023, 1023), 0);
        Checks.due("not packed by it", 0, index.visited(1, 310, 10, 90, 0));
        index.setSize(1, 8);
        unchanged("with FAN 8", index, () -> index.visitedPacked(1, 310, 10, 90, 0), 1);
        index.pack(1);
        index.move(9, 1000, 0);
        unchanged("as it is now", index, () -> index.visitedPacked(1, 1010, 0, 0, 0), 1);
        Checks.due("as it was packed", 0, index.visited(1, 1010, 0, 0, 0));
        int empty = index.addLayer(false);
        unchanged("without things", index, () -> index.visitedPacked(empty, 0, 0, 1023, 1023), 0);
        Checks.noLayer(index, "no layer, first", () -> index.visitedPacked(3, -1, 0, 0, 0));
        Checks.badArgument(index, "a layer of points", () -> index.visitedPacked(0, 0, 0, 0, 0));
        int[][] wrong = {{-1, 0, 0, 0}, {1024, 0, 0, 0}, {0, -1, 0, 0}, {0, 1024, 0, 0},
            {0, 0, -1, 0}, {0, 0, 1024, 0}, {0, 0, 0, -1}, {0, 0, 0, 1024}};
        for (int[] w : wrong) {
            Checks.badArgument(index, "visitedPacked " + java.util.Arrays.toString(w),
                    () -> index.visitedPacked(1, w[0], w[1], w[2], w[3]));
        }
    }

    private static long digestOf(long... numbers) {
        long d = 58069;
        for (long number : numbers) {
            d = d * 31 + number;
        }
        return d;
    }

    private static void digest() {
        CairnIndex index = new CairnIndex();
        Checks.due("of nothing", digestOf(0, 0), index.digest());
        index.addLayer(true);
        Checks.due("of an empty layer of points",
                digestOf(0, 0, 1, 1, 0, 1, -1, -1, 1, 0, 0, 1, 0), index.digest());
        index.addLayer(false);
        Checks.due("of two empty layers",
                digestOf(0, 0, 1, 1, 0, 1, -1, -1, 1, 0, 0, 1, 0, 0, 0, 0, 0, -1, -1, 0, 0, 0, 0, 0, 0), index.digest());
        index.addPoint(0, 512, 512, 7);
        index.addPoint(0, 500, 400, 3);
        index.addPoint(0, 512, 612, 3);
        index.addBox(1, 20, 30, 40, 50, 6);
        index.remove(0);
        index.pack(1);
        index.corner(0, 0);
        index.corner(2, 0);
        index.corner(0, 2);
        long[] things = {4, 1, 0, 500, 400, 0, 0, 3, 0, 2, 0, 512, 612, 0, 0, 3, 0, 3, 1, 20, 30, 40, 50, 6, 0};
        long[] points = {2, 1, 1, 1, 1, -1, -1, 1, 2, 1, 1};
        long[] boxes = {1, 1, 1, 0, 0, -1, -1, 1, 1, 1, 1};
        long[] rest = {1, 4};
        long[] all = java.util.stream.Stream.of(things, points, boxes, rest)
                .flatMapToLong(java.util.Arrays::stream).toArray();
        Checks.due("of all that", digestOf(all), index.digest());
        Checks.due("once more", digestOf(all), index.digest());
    }

    private static long digestByCalls(CairnIndex index, int layers, java.util.Set<Integer> gone) {
        java.util.List<Long> row = new java.util.ArrayList<>();
        row.add((long) index.things());
        for (int thing = 0; thing < index.things(); thing++) {
            if (!gone.contains(thing)) {
                row.add((long) thing);
                for (int what = 0; what <= 6; what++) {
                    row.add((long) index.of(thing, what));
                }
            }
        }
        for (int l = 0; l < layers; l++) {
            int[] told = {index.size(l), index.nodes(l), index.depth(l), index.inBox(l, 100, 100, 400, 300),
                index.visited(l, 100, 100, 400, 300), index.nearest(l, 512, 512, 3), index.far(l, 512, 512, 3),
                index.visitedFor(l, 512, 512, 3), index.clusters(l, 2500), index.greatest(l, 2500),
                index.nodesWith(l, 3)};
            for (int number : told) {
                row.add((long) number);
            }
        }
        for (int l = 0; l + 1 < layers; l++) {
            row.add((long) index.visitedPairs(l, l + 1, 900));
        }
        row.add((long) index.area());
        return digestOf(row.stream().mapToLong(Long::longValue).toArray());
    }

    /** Things just at and just behind each number that digest() asks with. */
    private static void digestAtTheEdges() {
        int[][] places = {{100, 100}, {100, 400}, {500, 100}, {500, 400}, {99, 250}, {501, 250}, {300, 99}, {300, 401},
            {512, 512}, {512, 513}, {513, 512}, {512, 511}, {511, 512}, {562, 512}, {482, 512}, {452, 512}, {512, 563}};
        for (int from = 0; from < places.length; from++) {
            for (int count = 1; from + count <= places.length && count <= 6; count++) {
                CairnIndex index = Made.empty(true, false, true, false);
                for (int i = from; i < from + count; i++) {
                    index.addPoint(0, places[i][0], places[i][1], 0);
                    index.addBox(1, places[i][0], places[i][1], i % 2, i % 3, 1);
                    index.addPoint(2, places[i][0] * 2 % 1024, places[i][1], 2);
                    index.addBox(3, places[i][0], places[i][1] - 49, 0, 0, 3);
                }
                index.setSize(0, 1);
                index.setSize(1, 2);
                index.setSize(3, 2);
                index.pack(1);
                index.pack(3);
                index.addBox(3, 5, 5, 5, 5, 5);
                index.remove(0);
                String told = "digest of " + count + " from " + from;
                Checks.due(told, digestByCalls(index, 4, java.util.Set.of(0)), index.digest());
            }
        }
    }

    /** Single boxes as roots of two layers with things below them, 30 and 31 apart: 900 is told apart from 901. */
    private static void digestOfPairs() {
        for (int apart = 28; apart <= 33; apart++) {
            for (int up = 0; up <= 1; up++) {
                CairnIndex index = new CairnIndex();
                index.addLayer(false);
                index.addLayer(false);
                for (int i = 0; i < 5; i++) {
                    index.addBox(0, 100 + i, 100, 0, 0, 0);
                    index.addBox(1, 104 + apart + i, 100 + up, 0, 0, 0);
                }
                index.pack(0);
                index.pack(1);
                boolean within = apart * apart + up * up <= 900;
                Checks.due("visitedPairs of 900", within ? 5 : 1, index.visitedPairs(0, 1, 900));
                Checks.due("digest of " + apart, digestByCalls(index, 2, java.util.Set.of()), index.digest());
            }
        }
    }

    public static void main(String[] args) {
        nodesWith();
        visitedPacked();
        digest();
        digestAtTheEdges();
        digestOfPairs();
        Checks.end();
    }
}
