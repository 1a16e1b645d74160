/** An index of things on a map; ../shared/DOC.md says what each call promises. */
public final class CairnIndex {
    private static final int MOST_LAYERS = 4;
    private static final int MOST_THINGS = 80;
    private static final int MOST_IN_A_ROW = 30;
    private static final int FEWEST_CORNERS = 3;
    private static final int MOST_CORNERS = 8;
    private static final int MAP_SIDE = 1024;
    private static final int WIDEST = 200;
    private static final int TAGS = 10;
    private static final int ANY_TAG = -1;
    private static final int FARTHEST = 3000000;
    private static final int SMALLEST_CAP = 1;
    private static final int SMALLEST_FAN = 2;
    private static final int GREATEST_SIZE = 8;
    private static final int FIRST_SIZE = 4;
    private static final int NONE = -1;

    // Sides 1024, 512, .. 1; a packed tree of 80 things has 7 levels at the most.
    private static final int MOST_LEVELS = 11;

    // A square that is split has 2 points or more, so of each side at most 40 are split:
    // 1 + 4 + 16 of the widest three, 40 of each of the seven others, and four below each.
    private static final int MOST_NODES = 1 + 4 * (1 + 4 + 16 + 7 * 40);

    // Keys are sorted as measure * KEY_STEP + number: of equal measures the smaller number is
    // first. Numbers (of things, or of nodes of a packed tree, 81 at the most) stay below it.
    private static final int KEY_STEP = 128;

    private static final long DIGEST_START = 58069L;
    private static final long DIGEST_FACTOR = 31L;

    private final Things things = new Things();
    private final Layer[] layers = new Layer[MOST_LAYERS];
    private final Fence fence = new Fence();
    private final Tree planned = new Tree();
    private int layerCount;

    public CairnIndex() {
        layerCount = 0;
    }

    // ---- layers and things

    public int addLayer(boolean isPoints) throws IllegalStateException {
        if (layerCount < 0 || layerCount >= layers.length) {
            throw new IllegalStateException("there are 4 layers");
        }
        Layer added = new Layer(layerCount, isPoints);
        layers[layerCount] = added;
        layerCount++;
        added.regrow(things);
        return added.number;
    }

    public int setSize(int layer, int size) throws IndexOutOfBoundsException, IllegalArgumentException {
        Layer sized = layerAt(layer);
        checkSize(sized, size);
        int before = sized.size;
        sized.size = size;
        sized.regrow(things);
        return before;
    }

    public int addPoint(int layer, int x, int y, int tag)
            throws IndexOutOfBoundsException, IllegalArgumentException, IllegalStateException {
        Layer grown = layerAt(layer);
        checkIsOfPoints(grown);
        checkWithinMap(x, y);
        if (tag < 0 || tag >= TAGS) {
            throw new IllegalArgumentException("no such tag");
        }
        checkRoomFor(1);
        int added = things.add(layer, tag);
        things.boxes.put(added, x, y, 0, 0);
        grown.regrow(things);
        return added;
    }

    public int addBox(int layer, int x, int y, int w, int h, int tag)
            throws IndexOutOfBoundsException, IllegalArgumentException, IllegalStateException {
        checkIsOfBoxes(layerAt(layer));
        checkWithinMap(x, y);
        if (w < 0 || w > WIDEST || h < 0 || h > WIDEST) {
            throw new IllegalArgumentException("too wide or too high");
        }
        checkWithinMap(x + w, y + h);
        if (tag < 0 || tag >= TAGS) {
            throw new IllegalArgumentException("no such tag");
        }
        checkRoomFor(1);
        int added = things.add(layer, tag);
        things.boxes.put(added, x, y, w, h);
        return added;
    }

    public int addRow(int layer, int x, int y, int stepX, int stepY, int count)
            throws IndexOutOfBoundsException, IllegalArgumentException, IllegalStateException {
        Layer grown = layerAt(layer);
        checkIsOfPoints(grown);
        checkWithinMap(x, y);
        checkWithinMap(stepX, stepY);
        if (count < 1 || count > MOST_IN_A_ROW) {
            throw new IllegalArgumentException("too few or too many");
        }
        checkRoomFor(count);
        int first = things.count;
        for (int k = 0; k < count; k++) {
            int added = things.add(layer, k % TAGS);
            things.boxes.put(added, (x + k * stepX) % MAP_SIDE, (y + k * stepY) % MAP_SIDE, 0, 0);
        }
        grown.regrow(things);
        return first;
    }

    public int move(int thing, int x, int y) throws IndexOutOfBoundsException, IllegalArgumentException {
        Layer touched = layerOfThing(thing);
        Boxes boxes = things.boxes;
        int w = boxes.ws.at(thing);
        int h = boxes.hs.at(thing);
        checkWithinMap(x, y);
        checkWithinMap(x + w, y + h);
        int moved = boxes.farFrom(thing, x, y, w, h);
        boxes.put(thing, x, y, w, h);
        touched.letGo(thing);
        touched.regrow(things);
        return moved;
    }

    public int remove(int thing) throws IndexOutOfBoundsException {
        Layer touched = layerOfThing(thing);
        things.layerOf.put(thing, NONE);
        touched.letGo(thing);
        touched.regrow(things);
        return things.countIn(touched.number);
    }

    public int pack(int layer) throws IndexOutOfBoundsException, IllegalArgumentException {
        Layer packed = layerAt(layer);
        checkIsOfBoxes(packed);
        packed.tree.growPacked(things, layer, packed.size);
        return packed.tree.nodeCount;
    }

    public int things() {
        return things.count;
    }

    public int size(int layer) throws IndexOutOfBoundsException {
        return things.countIn(layerAt(layer).number);
    }

    public int of(int thing, int what) throws IndexOutOfBoundsException, IllegalArgumentException {
        Layer its = layerOfThing(thing);
        switch (what) {
            case 0:
                return its.number;
            case 1:
                return things.boxes.xs.at(thing);
            case 2:
                return things.boxes.ys.at(thing);
            case 3:
                return things.boxes.ws.at(thing);
            case 4:
                return things.boxes.hs.at(thing);
            case 5:
                return things.tags.at(thing);
            case 6:
                return its.isLoose(thing) ? 1 : 0;
            default:
                throw new IllegalArgumentException("what is not 0 to 6");
        }
    }

    // ---- trees

    public int nodes(int layer) throws IndexOutOfBoundsException {
        return layerAt(layer).tree.nodeCount;
    }

    public int depth(int layer) throws IndexOutOfBoundsException {
        return layerAt(layer).tree.countLevels();
    }

    public int leaf(int layer, int x, int y, int what) throws IndexOutOfBoundsException, IllegalArgumentException {
        Layer asked = layerAt(layer);
        checkIsOfPoints(asked);
        checkWithinMap(x, y);
        Tree tree = asked.tree;
        int found = tree.leafAt(x, y);
        switch (what) {
            case 0:
                return tree.boxes.xs.at(found);
            case 1:
                return tree.boxes.ys.at(found);
            case 2:
                return tree.boxes.ws.at(found) + 1;
            case 3:
                return tree.held.at(found);
            case 4:
                return tree.levelOf.at(found);
            default:
                throw new IllegalArgumentException("what is not 0 to 4");
        }
    }

    public int level(int layer, int level) throws IndexOutOfBoundsException, IllegalArgumentException {
        Layer asked = layerAt(layer);
        checkIsOfBoxes(asked);
        if (level < 0) {
            throw new IllegalArgumentException("level is below 0");
        }
        return asked.tree.countOnLevel(level);
    }

    public int node(int layer, int level, int node, int what)
            throws IndexOutOfBoundsException, IllegalArgumentException {
        Layer asked = layerAt(layer);
        checkIsOfBoxes(asked);
        Tree tree = asked.tree;
        if (node < 0 || node >= tree.countOnLevel(level)) {
            throw new IndexOutOfBoundsException("no such node");
        }
        int found = tree.firstOnLevel(level) + node;
        switch (what) {
            case 0:
                return tree.boxes.xs.at(found);
            case 1:
                return tree.boxes.ys.at(found);
            case 2:
                return tree.boxes.ws.at(found);
            case 3:
                return tree.boxes.hs.at(found);
            case 4:
                return tree.isLeaf(found) ? tree.held.at(found) : tree.belowCount.at(found);
            default:
                throw new IllegalArgumentException("what is not 0 to 4");
        }
    }

    // ---- asking

    public int inBox(int layer, int x, int y, int w, int h)
            throws IndexOutOfBoundsException, IllegalArgumentException {
        Layer asked = layerAt(layer);
        checkWithinMap(x, y);
        checkWithinMap(w, h);
        return things.countMeeting(asked.number, x, y, w, h);
    }

    public int visited(int layer, int x, int y, int w, int h)
            throws IndexOutOfBoundsException, IllegalArgumentException {
        Layer asked = layerAt(layer);
        checkWithinMap(x, y);
        checkWithinMap(w, h);
        return asked.tree.countVisited(x, y, w, h, 0);
    }

    public int nearest(int layer, int x, int y, int k) throws IndexOutOfBoundsException, IllegalArgumentException {
        int key = keyOfNearest(layer, x, y, k);
        return key < 0 ? NONE : key % KEY_STEP;
    }

    public int far(int layer, int x, int y, int k) throws IndexOutOfBoundsException, IllegalArgumentException {
        int key = keyOfNearest(layer, x, y, k);
        return key < 0 ? NONE : key / KEY_STEP;
    }

    public int visitedFor(int layer, int x, int y, int k) throws IndexOutOfBoundsException, IllegalArgumentException {
        int key = keyOfNearest(layer, x, y, k);
        Tree tree = layerAt(layer).tree;
        return key < 0 ? tree.nodeCount : tree.countVisited(x, y, 0, 0, key / KEY_STEP);
    }

    public int pairs(int one, int other, int far) throws IndexOutOfBoundsException, IllegalArgumentException {
        Layer first = layerAt(one);
        Layer second = layerAt(other);
        checkFar(far);
        return things.countPairs(first.number, second.number, far);
    }

    public int visitedPairs(int one, int other, int far) throws IndexOutOfBoundsException, IllegalArgumentException {
        Tree first = layerAt(one).tree;
        Tree second = layerAt(other).tree;
        checkFar(far);
        if (first.nodeCount == 0 || second.nodeCount == 0) {
            return 0;
        }
        return countVisitedPairs(first, first.root, second, second.root, far, 0);
    }

    public int clusters(int layer, int far) throws IndexOutOfBoundsException, IllegalArgumentException {
        Layer asked = layerAt(layer);
        checkFar(far);
        things.gatherClusters(asked.number, far);
        return things.countClusters(asked.number);
    }

    public int greatest(int layer, int far) throws IndexOutOfBoundsException, IllegalArgumentException {
        Layer asked = layerAt(layer);
        checkFar(far);
        things.gatherClusters(asked.number, far);
        return things.greatestCluster(asked.number);
    }

    public int corner(int x, int y) throws IllegalArgumentException, IllegalStateException {
        checkWithinMap(x, y);
        if (fence.corners >= MOST_CORNERS) {
            throw new IllegalStateException("the fence has 8 corners");
        }
        fence.add(x, y);
        return fence.corners;
    }

    public int clear() {
        int before = fence.corners;
        fence.corners = 0;
        return before;
    }

    public int inFence(int layer, int tag)
            throws IndexOutOfBoundsException, IllegalArgumentException, IllegalStateException {
        Layer asked = layerAt(layer);
        if (tag < ANY_TAG || tag >= TAGS) {
            throw new IllegalArgumentException("no such tag");
        }
        if (fence.corners < FEWEST_CORNERS) {
            throw new IllegalStateException("the fence has fewer than 3 corners");
        }
        int count = 0;
        for (int thing = 0; thing < things.count; thing++) {
            boolean counts = tag == ANY_TAG || things.tags.at(thing) == tag;
            if (counts && things.isIn(thing, asked.number) && isInFence(thing)) {
                count++;
            }
        }
        return count;
    }

    public int area() {
        return fence.corners < FEWEST_CORNERS ? 0 : fence.twiceItsArea();
    }

    public double fullness(int layer) throws IndexOutOfBoundsException {
        Tree tree = layerAt(layer).tree;
        int leaves = 0;
        int held = 0;
        for (int node = 0; node < tree.nodeCount; node++) {
            if (tree.isLeaf(node)) {
                leaves++;
                held += tree.held.at(node);
            }
        }
        return leaves == 0 ? 0.0 : (double) held / (double) leaves;
    }

    // ---- what would be (nothing is changed)

    public int nodesWith(int layer, int size) throws IndexOutOfBoundsException, IllegalArgumentException {
        Layer asked = layerAt(layer);
        checkSize(asked, size);
        if (asked.isPoints) {
            planned.growQuarters(things, layer, size);
        } else {
            planned.growPacked(things, layer, size);
        }
        return planned.nodeCount;
    }

    public int visitedPacked(int layer, int x, int y, int w, int h)
            throws IndexOutOfBoundsException, IllegalArgumentException {
        Layer asked = layerAt(layer);
        checkIsOfBoxes(asked);
        checkWithinMap(x, y);
        checkWithinMap(w, h);
        planned.growPacked(things, layer, asked.size);
        return planned.countVisited(x, y, w, h, 0);
    }

    public long digest() {
        long d = DIGEST_START * DIGEST_FACTOR + things();
        for (int thing = 0; thing < things.count; thing++) {
            if (things.layerOf.at(thing) != NONE) {
                d = d * DIGEST_FACTOR + thing;
                for (int what = 0; what <= 6; what++) {
                    d = d * DIGEST_FACTOR + of(thing, what);
                }
            }
        }
        for (int layer = 0; layer < layerCount; layer++) {
            d = d * DIGEST_FACTOR + size(layer);
            d = d * DIGEST_FACTOR + nodes(layer);
            d = d * DIGEST_FACTOR + depth(layer);
            d = d * DIGEST_FACTOR + inBox(layer, 100, 100, 400, 300);
            d = d * DIGEST_FACTOR + visited(layer, 100, 100, 400, 300);
            d = d * DIGEST_FACTOR + nearest(layer, 512, 512, 3);
            d = d * DIGEST_FACTOR + far(layer, 512, 512, 3);
            d = d * DIGEST_FACTOR + visitedFor(layer, 512, 512, 3);
            d = d * DIGEST_FACTOR + clusters(layer, 2500);
            d = d * DIGEST_FACTOR + greatest(layer, 2500);
            d = d * DIGEST_FACTOR + nodesWith(layer, 3);
        }
        for (int layer = 0; layer + 1 < layerCount; layer++) {
            d = d * DIGEST_FACTOR + visitedPairs(layer, layer + 1, 900);
        }
        return d * DIGEST_FACTOR + area();
    }

    // ---- what several calls share

    private Layer layerAt(int layer) {
        if (layer < 0 || layer >= layers.length) {
            throw new IndexOutOfBoundsException("no such layer");
        }
        Layer found = layers[layer];
        if (found == null) {
            throw new IndexOutOfBoundsException("no such layer");
        }
        return found;
    }

    private Layer layerOfThing(int thing) {
        if (thing < 0 || thing >= things.count) {
            throw new IndexOutOfBoundsException("no such thing");
        }
        if (things.layerOf.at(thing) == NONE) {
            throw new IndexOutOfBoundsException("the thing is gone");
        }
        return layerAt(things.layerOf.at(thing));
    }

    private static void checkIsOfPoints(Layer layer) {
        if (!layer.isPoints) {
            throw new IllegalArgumentException("the layer is of boxes");
        }
    }

    private static void checkIsOfBoxes(Layer layer) {
        if (layer.isPoints) {
            throw new IllegalArgumentException("the layer is of points");
        }
    }

    private static void checkWithinMap(int one, int other) {
        if (one < 0 || one >= MAP_SIDE || other < 0 || other >= MAP_SIDE) {
            throw new IllegalArgumentException("not 0 to 1023");
        }
    }

    private static void checkSize(Layer layer, int size) {
        int smallest = layer.isPoints ? SMALLEST_CAP : SMALLEST_FAN;
        if (size < smallest || size > GREATEST_SIZE) {
            throw new IllegalArgumentException("no such size");
        }
    }

    private static void checkFar(int far) {
        if (far < 0 || far > FARTHEST) {
            throw new IllegalArgumentException("far is not 0 to 3000000");
        }
    }

    private void checkRoomFor(int more) {
        if (things.count + more > MOST_THINGS) {
            throw new IllegalStateException("there would be more than 80 things");
        }
    }

    private int keyOfNearest(int layer, int x, int y, int k) {
        Layer asked = layerAt(layer);
        checkWithinMap(x, y);
        if (k < 1 || k > MOST_THINGS) {
            throw new IllegalArgumentException("k is not 1 to 80");
        }
        int count = things.sortByFar(asked.number, x, y);
        return k > count ? NONE : things.keys.at(k - 1);
    }

    // The fence is asked in half units, as the middle of a box may lie between two points.
    private boolean isInFence(int thing) {
        return fence.hasIn(things.boxes.twiceMiddleX(thing), things.boxes.twiceMiddleY(thing));
    }

    private static int countVisitedPairs(Tree one, int u, Tree other, int v, int far, int level) {
        if (level >= MOST_LEVELS) {
            return 0;
        }
        int below = one.belowCount.at(u);
        int otherBelow = other.belowCount.at(v);
        if ((below == 0 && otherBelow == 0) || one.boxes.farBetween(u, other.boxes, v) > far) {
            return 1;
        }
        int count = 1;
        for (int i = 0; i == 0 || i < below; i++) {
            int down = below == 0 ? u : one.belowAt(u, i);
            for (int j = 0; j == 0 || j < otherBelow; j++) {
                int otherDown = otherBelow == 0 ? v : other.belowAt(v, j);
                count += countVisitedPairs(one, down, other, otherDown, far, level + 1);
            }
        }
        return count;
    }

    /** Numbers in a row: the one place where an array of them is indexed, so that no index is wrong. */
    private static final class Row {
        private final int[] cells;

        Row(int length) {
            cells = new int[Math.max(length, 0)];
        }

        int at(int i) {
            return i >= 0 && i < cells.length ? cells[i] : 0;
        }

        void put(int i, int value) {
            if (i >= 0 && i < cells.length) {
                cells[i] = value;
            }
        }

        void addTo(int i, int more) {
            if (i >= 0 && i < cells.length) {
                cells[i] += more;
            }
        }

        void fill(int value) {
            for (int i = 0; i < cells.length; i++) {
                cells[i] = value;
            }
        }

        void sortPart(int from, int to) {
            int start = Math.max(from, 0);
            int end = Math.min(to, cells.length);
            for (int i = start; i < end; i++) {
                int key = cells[i];
                int hole = i;
                while (hole > start && cells[hole - 1] > key) {
                    cells[hole] = cells[hole - 1];
                    hole--;
                }
                cells[hole] = key;
            }
        }
    }

    /** Boxes, by their places in a row. */
    private static final class Boxes {
        private final Row xs;
        private final Row ys;
        private final Row ws;
        private final Row hs;

        Boxes(int length) {
            xs = new Row(length);
            ys = new Row(length);
            ws = new Row(length);
            hs = new Row(length);
        }

        void put(int i, int x, int y, int w, int h) {
            xs.put(i, x);
            ys.put(i, y);
            ws.put(i, w);
            hs.put(i, h);
        }

        int twiceMiddleX(int i) {
            return 2 * xs.at(i) + ws.at(i);
        }

        int twiceMiddleY(int i) {
            return 2 * ys.at(i) + hs.at(i);
        }

        int farFrom(int i, int x, int y, int w, int h) {
            int dx = gap(xs.at(i), ws.at(i), x, w);
            int dy = gap(ys.at(i), hs.at(i), y, h);
            return dx * dx + dy * dy;
        }

        int farBetween(int i, Boxes others, int j) {
            return farFrom(i, others.xs.at(j), others.ys.at(j), others.ws.at(j), others.hs.at(j));
        }

        private static int gap(int from, int length, int otherFrom, int otherLength) {
            return Math.max(0, Math.max(from - otherFrom - otherLength, otherFrom - from - length));
        }

        void stretchOver(int i, Boxes others, int j) {
            int left = Math.min(xs.at(i), others.xs.at(j));
            int low = Math.min(ys.at(i), others.ys.at(j));
            int right = Math.max(xs.at(i) + ws.at(i), others.xs.at(j) + others.ws.at(j));
            int high = Math.max(ys.at(i) + hs.at(i), others.ys.at(j) + others.hs.at(j));
            put(i, left, low, right - left, high - low);
        }
    }

    /** All things there were ever; the layer of one that is gone is NONE. */
    private static final class Things {
        private final Boxes boxes = new Boxes(MOST_THINGS);
        private final Row layerOf = new Row(MOST_THINGS);
        private final Row tags = new Row(MOST_THINGS);
        private final Row keys = new Row(MOST_THINGS);
        private final Row clusterOf = new Row(MOST_THINGS);
        private int count;

        int add(int layer, int tag) {
            int added = count;
            layerOf.put(added, layer);
            tags.put(added, tag);
            count++;
            return added;
        }

        boolean isIn(int thing, int layer) {
            return layerOf.at(thing) == layer;
        }

        int countIn(int layer) {
            int found = 0;
            for (int thing = 0; thing < count; thing++) {
                if (isIn(thing, layer)) {
                    found++;
                }
            }
            return found;
        }

        int countMeeting(int layer, int x, int y, int w, int h) {
            int found = 0;
            for (int thing = 0; thing < count; thing++) {
                if (isIn(thing, layer) && boxes.farFrom(thing, x, y, w, h) == 0) {
                    found++;
                }
            }
            return found;
        }

        /** Puts the keys of the layer's things in order, and returns how many there are. */
        int sortByFar(int layer, int x, int y) {
            int found = 0;
            for (int thing = 0; thing < count; thing++) {
                if (isIn(thing, layer)) {
                    keys.put(found, boxes.farFrom(thing, x, y, 0, 0) * KEY_STEP + thing);
                    found++;
                }
            }
            keys.sortPart(0, found);
            return found;
        }

        int countPairs(int one, int other, int far) {
            int found = 0;
            for (int thing = 0; thing < count; thing++) {
                if (isIn(thing, one)) {
                    int from = one == other ? thing + 1 : 0;
                    found += countNear(thing, from, other, far);
                }
            }
            return found;
        }

        private int countNear(int thing, int from, int layer, int far) {
            int found = 0;
            for (int mate = from; mate < count; mate++) {
                if (isIn(mate, layer) && boxes.farBetween(thing, boxes, mate) <= far) {
                    found++;
                }
            }
            return found;
        }

        /** Gives each thing of the layer the smallest number in its cluster. */
        void gatherClusters(int layer, int far) {
            for (int thing = 0; thing < count; thing++) {
                clusterOf.put(thing, thing);
                for (int mate = 0; mate < thing; mate++) {
                    boolean bothIn = isIn(thing, layer) && isIn(mate, layer);
                    if (bothIn && boxes.farBetween(thing, boxes, mate) <= far) {
                        joinClusters(clusterOf.at(thing), clusterOf.at(mate));
                    }
                }
            }
        }

        private void joinClusters(int one, int other) {
            if (one == other) {
                return;
            }
            int kept = Math.min(one, other);
            int dropped = Math.max(one, other);
            for (int thing = 0; thing < count; thing++) {
                if (clusterOf.at(thing) == dropped) {
                    clusterOf.put(thing, kept);
                }
            }
        }

        int countClusters(int layer) {
            int found = 0;
            for (int thing = 0; thing < count; thing++) {
                if (isIn(thing, layer) && clusterOf.at(thing) == thing) {
                    found++;
                }
            }
            return found;
        }

        int greatestCluster(int layer) {
            int most = 0;
            for (int cluster = 0; cluster < count; cluster++) {
                int found = 0;
                for (int thing = 0; thing < count; thing++) {
                    if (isIn(thing, layer) && clusterOf.at(thing) == cluster) {
                        found++;
                    }
                }
                most = Math.max(most, found);
            }
            return most;
        }
    }

    /** A layer with its tree; its size is CAP or FAN. */
    private static final class Layer {
        private final int number;
        private final boolean isPoints;
        private final Tree tree = new Tree();
        private int size = FIRST_SIZE;

        Layer(int number, boolean isPoints) {
            this.number = number;
            this.isPoints = isPoints;
        }

        /** A packed tree stays as it is till it is packed again. */
        void regrow(Things things) {
            if (isPoints) {
                tree.growQuarters(things, number, size);
            }
        }

        void letGo(int thing) {
            int leaf = tree.homeOf.at(thing);
            if (leaf != NONE) {
                tree.held.addTo(leaf, -1);
                tree.homeOf.put(thing, NONE);
            }
        }

        boolean isLoose(int thing) {
            return !isPoints && tree.homeOf.at(thing) == NONE;
        }
    }

    /**
     * A tree of quarters, or a packed one. Nodes stand level by level: quarters from the root on,
     * packed ones from the leaves on. The box of a square is what it reaches over.
     */
    private static final class Tree {
        private final Boxes boxes = new Boxes(MOST_NODES);
        private final Row levelOf = new Row(MOST_NODES);
        private final Row held = new Row(MOST_NODES);
        private final Row belowFrom = new Row(MOST_NODES);
        private final Row belowCount = new Row(MOST_NODES);
        private final Row below = new Row(MOST_NODES);
        private final Row homeOf = new Row(MOST_THINGS);
        private final Row keys = new Row(MOST_THINGS);
        private int nodeCount;
        private int root;

        Tree() {
            homeOf.fill(NONE);
        }

        boolean isLeaf(int node) {
            return belowCount.at(node) == 0;
        }

        int belowAt(int node, int i) {
            return below.at(belowFrom.at(node) + i);
        }

        int countLevels() {
            return nodeCount == 0 ? 0 : levelOf.at(nodeCount - 1) + 1;
        }

        int firstOnLevel(int level) {
            int first = 0;
            while (first < nodeCount && levelOf.at(first) < level) {
                first++;
            }
            return first;
        }

        int countOnLevel(int level) {
            int found = 0;
            for (int node = 0; node < nodeCount; node++) {
                if (levelOf.at(node) == level) {
                    found++;
                }
            }
            return found;
        }

        // What is above a node reaches over all of its box and so is not farther than it is:
        // just those nodes are visited that are not too far themselves.
        int countVisited(int x, int y, int w, int h, int far) {
            int found = 0;
            for (int node = 0; node < nodeCount; node++) {
                if (boxes.farFrom(node, x, y, w, h) <= far) {
                    found++;
                }
            }
            return found;
        }

        int leafAt(int x, int y) {
            int at = root;
            for (int level = 0; level < MOST_LEVELS && !isLeaf(at); level++) {
                at = belowAt(at, quarterOf(at, x, y));
            }
            return at;
        }

        private int quarterOf(int square, int x, int y) {
            int half = halfSide(square);
            int right = x >= boxes.xs.at(square) + half ? 1 : 0;
            int upper = y >= boxes.ys.at(square) + half ? 2 : 0;
            return right + upper;
        }

        private int halfSide(int square) {
            return (boxes.ws.at(square) + 1) / 2;
        }

        private void fell() {
            nodeCount = 0;
            root = 0;
            homeOf.fill(NONE);
        }

        private int addNode(int level) {
            int added = nodeCount;
            levelOf.put(added, level);
            held.put(added, 0);
            belowCount.put(added, 0);
            nodeCount++;
            return added;
        }

        private void settle(int thing, int leaf) {
            homeOf.put(thing, leaf);
            held.addTo(leaf, 1);
        }

        void growQuarters(Things things, int layer, int cap) {
            fell();
            root = addNode(0);
            boxes.put(root, 0, 0, MAP_SIDE - 1, MAP_SIDE - 1);
            for (int thing = 0; thing < things.count; thing++) {
                if (things.isIn(thing, layer)) {
                    settle(thing, root);
                }
            }
            for (int square = 0; square < MOST_NODES && square < nodeCount; square++) {
                if (held.at(square) > cap && halfSide(square) > 0) {
                    split(square, things);
                }
            }
        }

        private void split(int square, Things things) {
            int half = halfSide(square);
            int first = nodeCount;
            belowFrom.put(square, first);
            for (int quarter = 0; quarter < 4; quarter++) {
                int x = boxes.xs.at(square) + quarter % 2 * half;
                int y = boxes.ys.at(square) + quarter / 2 * half;
                int added = addNode(levelOf.at(square) + 1);
                boxes.put(added, x, y, half - 1, half - 1);
                below.put(added, added);
            }
            belowCount.put(square, 4);
            for (int thing = 0; thing < things.count; thing++) {
                if (homeOf.at(thing) == square) {
                    settle(thing, first + quarterOf(square, things.boxes.xs.at(thing), things.boxes.ys.at(thing)));
                }
            }
        }

        void growPacked(Things things, int layer, int fan) {
            fell();
            int count = 0;
            for (int thing = 0; thing < things.count; thing++) {
                if (things.isIn(thing, layer)) {
                    keys.put(count, thing);
                    count++;
                }
            }
            if (count == 0 || fan < SMALLEST_FAN) {
                return;
            }
            orderToPack(things.boxes, count, fan);
            cutLeaves(things.boxes, count, fan);
            int start = 0;
            for (int level = 1; level < MOST_LEVELS && nodeCount - start > 1; level++) {
                int end = nodeCount;
                for (int node = start; node < end; node++) {
                    keys.put(node - start, node);
                }
                orderToPack(boxes, end - start, fan);
                cutNodes(start, end, fan, level);
                start = end;
            }
            root = nodeCount - 1;
        }

        /** Puts the numbers in keys in the order in which they are cut. */
        private void orderToPack(Boxes packed, int count, int fan) {
            for (int i = 0; i < count; i++) {
                int number = keys.at(i);
                keys.put(i, packed.twiceMiddleX(number) * KEY_STEP + number);
            }
            keys.sortPart(0, count);
            for (int i = 0; i < count; i++) {
                int number = keys.at(i) % KEY_STEP;
                keys.put(i, packed.twiceMiddleY(number) * KEY_STEP + number);
            }
            int length = Math.max(1, sliceLength(count, fan));
            for (int from = 0; from < count; from += length) {
                keys.sortPart(from, Math.min(from + length, count));
            }
            for (int i = 0; i < count; i++) {
                keys.put(i, keys.at(i) % KEY_STEP);
            }
        }

        private static int sliceLength(int count, int fan) {
            int slices = 0;
            while (slices < MOST_THINGS && slices * slices * fan < count) {
                slices++;
            }
            return slices * fan;
        }

        // A slice is cut without a rest, but for the last one, so all can be cut as one row.
        private void cutLeaves(Boxes packed, int count, int fan) {
            int leaf = NONE;
            for (int i = 0; i < count; i++) {
                int thing = keys.at(i);
                if (leaf == NONE || held.at(leaf) >= fan) {
                    leaf = addNode(0);
                    copyBox(leaf, packed, thing);
                }
                boxes.stretchOver(leaf, packed, thing);
                settle(thing, leaf);
            }
        }

        private void cutNodes(int start, int end, int fan, int level) {
            int above = NONE;
            for (int i = start; i < end; i++) {
                int node = keys.at(i - start);
                if (above == NONE || belowCount.at(above) >= fan) {
                    above = addNode(level);
                    copyBox(above, boxes, node);
                    belowFrom.put(above, i);
                }
                boxes.stretchOver(above, boxes, node);
                below.put(i, node);
                belowCount.addTo(above, 1);
            }
        }

        private void copyBox(int node, Boxes others, int j) {
            boxes.put(node, others.xs.at(j), others.ys.at(j), others.ws.at(j), others.hs.at(j));
        }
    }

    /** The corners, one behind the other. */
    private static final class Fence {
        private final Row xs = new Row(MOST_CORNERS);
        private final Row ys = new Row(MOST_CORNERS);
        private int corners;

        void add(int x, int y) {
            xs.put(corners, x);
            ys.put(corners, y);
            corners++;
        }

        private int next(int corner) {
            return corner + 1 < corners ? corner + 1 : 0;
        }

        int twiceItsArea() {
            int sum = 0;
            for (int corner = 0; corner < corners; corner++) {
                int behind = next(corner);
                sum += xs.at(corner) * ys.at(behind) - xs.at(behind) * ys.at(corner);
            }
            return Math.abs(sum);
        }

        /** Whether a point, told by twice its x and y, is in the fence. */
        boolean hasIn(int twiceX, int twiceY) {
            boolean odd = false;
            for (int corner = 0; corner < corners; corner++) {
                if (hasOnEdge(corner, twiceX, twiceY)) {
                    return true;
                }
                if (isCrossed(corner, twiceX, twiceY)) {
                    odd = !odd;
                }
            }
            return odd;
        }

        private boolean hasOnEdge(int corner, int twiceX, int twiceY) {
            int behind = next(corner);
            return sideOf(corner, twiceX, twiceY) == 0
                    && isBetween(twiceX, 2 * xs.at(corner), 2 * xs.at(behind))
                    && isBetween(twiceY, 2 * ys.at(corner), 2 * ys.at(behind));
        }

        private static boolean isBetween(int number, int one, int other) {
            return number >= Math.min(one, other) && number <= Math.max(one, other);
        }

        private boolean isCrossed(int corner, int twiceX, int twiceY) {
            int behind = next(corner);
            boolean above = 2 * ys.at(corner) > twiceY;
            boolean behindAbove = 2 * ys.at(behind) > twiceY;
            if (above == behindAbove) {
                return false;
            }
            int side = sideOf(corner, twiceX, twiceY);
            return behindAbove ? side > 0 : side < 0;
        }

        /** Above 0 if the point is to the left of the edge, as one goes along it; 0 if it is on its line. */
        private int sideOf(int corner, int twiceX, int twiceY) {
            int behind = next(corner);
            int alongX = 2 * (xs.at(behind) - xs.at(corner));
            int alongY = 2 * (ys.at(behind) - ys.at(corner));
            return alongX * (twiceY - 2 * ys.at(corner)) - alongY * (twiceX - 2 * xs.at(corner));
        }
    }
}
