/**
 * Layers of 40 to 80 things close together, with many ties, answered by CairnIndex and by PlainIndex.
 * An object is asked less than 512 times; one that is made alike is asked on.
 */
public final class CrowdedRunsTest {
    private static final int RUNS = 150;
    private static final int MOST_LEVELS = 8;
    private static final int[] SPREADS = {2, 5, 20, 100, 824};
    private static final int[] WIDTHS = {1, 3, 30, 200};
    private static final int[] FARS = {0, 1, 2, 4, 25, 900, 10000, 90000, 3000000};

    private long seed;
    private final CairnIndex tested = new CairnIndex();
    private final PlainIndex plain = new PlainIndex();
    private final int run;
    private final int spread;
    private final int width;

    private CrowdedRunsTest(int run) {
        this.run = run;
        seed = run * 104729L + 5;
        spread = SPREADS[upTo(SPREADS.length)];
        width = WIDTHS[upTo(WIDTHS.length)];
    }

    private int upTo(int bound) {
        seed = seed * 6364136223846793005L + 1442695040888963407L;
        return (int) ((seed >>> 33) % bound);
    }

    private void due(String call, double want, double got) {
        Checks.dueExactly("run " + run + ": " + call, want, got);
    }

    /** Most of the things are in layer 0, some in layer 1 if it is there. */
    private void crowd(int layers) {
        for (int layer = 0; layer < layers; layer++) {
            boolean isPoints = (run + layer) % 2 == 0;
            tested.addLayer(isPoints);
            plain.addLayer(isPoints);
            resize(layer);
        }
        int count = 40 + upTo(41);
        for (int i = 0; i < count; i++) {
            add(layers > 1 && upTo(4) == 0 ? 1 : 0);
        }
    }

    private void resize(int layer) {
        int size = 2 + upTo(7) - (plain.layers.get(layer).points ? 1 : 0);
        due("setSize", plain.setSize(layer, size), tested.setSize(layer, size));
    }

    private void add(int layer) {
        int x = upTo(spread);
        int y = upTo(spread);
        int tag = upTo(10);
        if (plain.layers.get(layer).points) {
            due("addPoint", plain.addPoint(layer, x, y, tag), tested.addPoint(layer, x, y, tag));
        } else {
            int w = upTo(width);
            int h = upTo(width);
            due("addBox", plain.addBox(layer, x, y, w, h, tag), tested.addBox(layer, x, y, w, h, tag));
        }
    }

    private void pack(int layer) {
        if (!plain.layers.get(layer).points) {
            due("pack", plain.pack(layer), tested.pack(layer));
        }
    }

    private void everyNode() {
        for (int level = 0; level < MOST_LEVELS; level++) {
            int count = plain.level(0, level);
            due("level " + level, count, tested.level(0, level));
            for (int node = 0; node < count; node++) {
                for (int what = 0; what <= 4; what++) {
                    String call = "node(0, " + level + ", " + node + ", " + what + ")";
                    due(call, plain.node(0, level, node, what), tested.node(0, level, node, what));
                }
            }
        }
    }

    private void someLeaves() {
        for (int i = 0; i < 60; i++) {
            int x = upTo(spread + 1);
            int y = upTo(spread + 1);
            for (int what = 0; what <= 4; what++) {
                due("leaf(0, " + x + ", " + y + ", " + what + ")", plain.leaf(0, x, y, what), tested.leaf(0, x, y, what));
            }
        }
    }

    private void fence() {
        int corners = 3 + upTo(6);
        for (int i = 0; i < corners; i++) {
            int x = upTo(spread + width);
            int y = upTo(spread + width);
            due("corner", plain.corner(x, y), tested.corner(x, y));
        }
        due("area", plain.area(), tested.area());
    }

    private void askTree(int layer) {
        due("nodes", plain.nodes(layer), tested.nodes(layer));
        due("depth", plain.depth(layer), tested.depth(layer));
        due("fullness", plain.fullness(layer), tested.fullness(layer));
        for (int size = 2; size <= 8; size++) {
            due("nodesWith " + size, plain.nodesWith(layer, size), tested.nodesWith(layer, size));
        }
    }

    private void askPlace(int layer) {
        int x = upTo(spread + 20);
        int y = upTo(spread + 20);
        int w = upTo(spread);
        int h = upTo(spread);
        int k = 1 + upTo(80);
        due("inBox", plain.inBox(layer, x, y, w, h), tested.inBox(layer, x, y, w, h));
        due("visited", plain.visited(layer, x, y, w, h), tested.visited(layer, x, y, w, h));
        due("nearest", plain.nearest(layer, x, y, k), tested.nearest(layer, x, y, k));
        due("far", plain.far(layer, x, y, k), tested.far(layer, x, y, k));
        due("visitedFor", plain.visitedFor(layer, x, y, k), tested.visitedFor(layer, x, y, k));
        if (!plain.layers.get(layer).points) {
            due("visitedPacked", plain.visitedPacked(layer, x, y, w, h), tested.visitedPacked(layer, x, y, w, h));
        }
    }

    private void askNearness(int layer) {
        int far = FARS[upTo(FARS.length)];
        int tag = upTo(11) - 1;
        due("clusters", plain.clusters(layer, far), tested.clusters(layer, far));
        due("greatest", plain.greatest(layer, far), tested.greatest(layer, far));
        due("inFence", plain.inFence(layer, tag), tested.inFence(layer, tag));
        for (int other = 0; other < 2; other++) {
            due("pairs", plain.pairs(layer, other, far), tested.pairs(layer, other, far));
            due("visitedPairs", plain.visitedPairs(layer, other, far), tested.visitedPairs(layer, other, far));
        }
    }

    private void comeAndGo() {
        for (int i = 0; i < 12; i++) {
            int thing = upTo(plain.things());
            int x = upTo(spread);
            int y = upTo(spread);
            if (!plain.all.get(thing).gone && upTo(3) == 0) {
                due("remove", plain.remove(thing), tested.remove(thing));
            } else if (!plain.all.get(thing).gone) {
                due("move", plain.move(thing, x, y), tested.move(thing, x, y));
                due("LOOSE", plain.of(thing, 6), tested.of(thing, 6));
            }
        }
    }

    private void nodeByNode() {
        crowd(1);
        pack(0);
        if (plain.layers.get(0).points) {
            someLeaves();
        } else {
            everyNode();
        }
    }

    private void questions() {
        crowd(2);
        fence();
        for (int round = 0; round < 3; round++) {
            for (int layer = 0; layer < 2; layer++) {
                if (upTo(3) > 0) {
                    pack(layer);
                }
                askTree(layer);
                for (int i = 0; i < 3; i++) {
                    askPlace(layer);
                    askNearness(layer);
                }
            }
            Checks.due("run " + run + ": digest", plain.digest(), tested.digest());
            comeAndGo();
            resize(upTo(2));
        }
    }

    public static void main(String[] args) {
        for (int run = 0; run < RUNS; run++) {
            new CrowdedRunsTest(run).nodeByNode();
            new CrowdedRunsTest(run).questions();
        }
        Checks.end();
    }
}
