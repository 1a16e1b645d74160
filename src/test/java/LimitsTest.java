/**
 * Every "Throws .. if ..": the last that is allowed and the first that is not, on each side, with the
 * exception of that name; and after each refused call the object answers as without it.
 */
public final class LimitsTest {
    private static final int LEAST = Integer.MIN_VALUE;
    private static final int MOST = Integer.MAX_VALUE;
    private static final int P = Made.POINTS;
    private static final int B = Made.BOXES;
    private static final int A_POINT = 0;
    private static final int A_BOX = 5;
    private static final int WIDE_BOX = 6;

    private static void says(int promise, String words) {
        Checks.says("Promise " + promise + ": " + words);
    }

    // ---- no such layer

    private static void noSuchLayer(int promise, String name, boolean isPoints, Twins.OnNumber call) {
        says(promise, "Throws IndexOutOfBoundsException if there is no such LAYER");
        for (int count = 0; count <= 4; count++) {
            int layers = count;
            Twins.Maker maker = () -> Made.layers(layers, isPoints);
            for (int wrong : new int[] {layers, -1, 4, LEAST, MOST}) {
                Twins.refused(Twins.BOUNDS, name + " of layer " + wrong + " of " + layers, maker, index -> call.at(index, wrong));
            }
            for (int layer = 0; layer < layers; layer++) {
                int right = layer;
                Twins.allowed(name + " of layer " + right + " of " + layers, maker, index -> call.at(index, right));
            }
        }
    }

    private static void noSuchLayerOfAny(int promise, String name, Twins.OnNumber call) {
        noSuchLayer(promise, name, true, call);
        noSuchLayer(promise, name, false, call);
    }

    private static void layersThatAreThere() {
        noSuchLayerOfAny(3, "setSize", (i, l) -> i.setSize(l, 4));
        noSuchLayer(4, "addPoint", true, (i, l) -> i.addPoint(l, 1, 1, 1));
        noSuchLayer(5, "addBox", false, (i, l) -> i.addBox(l, 1, 1, 1, 1, 1));
        noSuchLayer(6, "addRow", true, (i, l) -> i.addRow(l, 1, 1, 1, 1, 1));
        noSuchLayer(9, "pack", false, (i, l) -> i.pack(l));
        noSuchLayerOfAny(11, "size", (i, l) -> i.size(l));
        noSuchLayerOfAny(13, "nodes", (i, l) -> i.nodes(l));
        noSuchLayerOfAny(14, "depth", (i, l) -> i.depth(l));
        noSuchLayer(15, "leaf", true, (i, l) -> i.leaf(l, 1, 1, 1));
        noSuchLayer(16, "level", false, (i, l) -> i.level(l, 0));
        noSuchLayer(17, "node", false, (i, l) -> i.node(l, 0, 0, 0));
        noSuchLayerOfAny(18, "inBox", (i, l) -> i.inBox(l, 1, 1, 1, 1));
        noSuchLayerOfAny(19, "visited", (i, l) -> i.visited(l, 1, 1, 1, 1));
        noSuchLayerOfAny(20, "nearest", (i, l) -> i.nearest(l, 1, 1, 1));
        noSuchLayerOfAny(21, "far", (i, l) -> i.far(l, 1, 1, 1));
        noSuchLayerOfAny(22, "visitedFor", (i, l) -> i.visitedFor(l, 1, 1, 1));
        noSuchLayerOfAny(23, "pairs", (i, l) -> i.pairs(l, 0, 1));
        noSuchLayerOfAny(23, "pairs, other", (i, l) -> i.pairs(0, l, 1));
        noSuchLayerOfAny(24, "visitedPairs", (i, l) -> i.visitedPairs(l, 0, 1));
        noSuchLayerOfAny(24, "visitedPairs, other", (i, l) -> i.visitedPairs(0, l, 1));
        noSuchLayerOfAny(25, "clusters", (i, l) -> i.clusters(l, 1));
        noSuchLayerOfAny(26, "greatest", (i, l) -> i.greatest(l, 1));
        noSuchLayerOfAny(29, "inFence", (i, l) -> i.inFence(l, -1));
        noSuchLayerOfAny(31, "fullness", (i, l) -> i.fullness(l));
        noSuchLayerOfAny(32, "nodesWith", (i, l) -> i.nodesWith(l, 4));
        noSuchLayer(33, "visitedPacked", false, (i, l) -> i.visitedPacked(l, 1, 1, 1, 1));
    }

    // ---- a layer of the other kind

    private static void ofTheOtherKind(int promise, String words, boolean mustBeOfPoints, Twins.OnNumber call) {
        says(promise, "Throws IllegalArgumentException if " + words);
        int right = mustBeOfPoints ? P : B;
        int wrong = mustBeOfPoints ? B : P;
        Twins.allowed("a layer of the right kind", Made::mixed, index -> call.at(index, right));
        Twins.refused(Twins.ARGUMENT, "one of the other kind", Made::mixed, index -> call.at(index, wrong));
    }

    private static void kindsOfLayers() {
        ofTheOtherKind(4, "the LAYER is of BOXES", true, (i, l) -> i.addPoint(l, 1, 1, 1));
        ofTheOtherKind(5, "the LAYER is of POINTS", false, (i, l) -> i.addBox(l, 1, 1, 0, 0, 1));
        ofTheOtherKind(6, "the LAYER is of BOXES", true, (i, l) -> i.addRow(l, 1, 1, 1, 1, 1));
        ofTheOtherKind(9, "it is of POINTS", false, (i, l) -> i.pack(l));
        ofTheOtherKind(15, "it is of BOXES", true, (i, l) -> i.leaf(l, 1, 1, 0));
        ofTheOtherKind(16, "it is of POINTS", false, (i, l) -> i.level(l, 0));
        ofTheOtherKind(17, "it is of POINTS", false, (i, l) -> i.node(l, 0, 0, 0));
        ofTheOtherKind(33, "it is of POINTS", false, (i, l) -> i.visitedPacked(l, 1, 1, 1, 1));
    }

    // ---- numbers from .. to ..

    private static void from0To(int greatest, String name, Twins.OnNumber call) {
        fromTo(0, greatest, name, call);
    }

    private static void fromTo(int least, int greatest, String name, Twins.OnNumber call) {
        for (int right : new int[] {least, least + 1, greatest - 1, greatest}) {
            Twins.allowed(name + " " + right, Made::mixed, index -> call.at(index, right));
        }
        for (int wrong : new int[] {least - 1, greatest + 1, LEAST, MOST, -1000000, 1000000000}) {
            Twins.refused(Twins.ARGUMENT, name + " " + wrong, Made::mixed, index -> call.at(index, wrong));
        }
    }

    private static void onTheMap(int promise, String name, Twins.OnPlace call) {
        says(promise, "Throws IllegalArgumentException if x or y is not 0 to 1023");
        from0To(1023, name + ", x", (i, x) -> call.at(i, x, 0));
        from0To(1023, name + ", x, with the greatest y", (i, x) -> call.at(i, x, 1023));
        from0To(1023, name + ", y", (i, y) -> call.at(i, 0, y));
        from0To(1023, name + ", y, with the greatest x", (i, y) -> call.at(i, 1023, y));
    }

    private static void places() {
        onTheMap(4, "addPoint", (i, x, y) -> i.addPoint(P, x, y, 1));
        onTheMap(5, "addBox", (i, x, y) -> i.addBox(B, x, y, 0, 0, 1));
        onTheMap(6, "addRow", (i, x, y) -> i.addRow(P, x, y, 1, 1, 1));
        onTheMap(7, "move of a point", (i, x, y) -> i.move(A_POINT, x, y));
        onTheMap(7, "move of a box without w and h", (i, x, y) -> i.move(7, x, y));
        onTheMap(15, "leaf", (i, x, y) -> i.leaf(P, x, y, 0));
        onTheMap(18, "inBox of points", (i, x, y) -> i.inBox(P, x, y, 1, 1));
        onTheMap(18, "inBox of boxes", (i, x, y) -> i.inBox(B, x, y, 1, 1));
        onTheMap(19, "visited of points", (i, x, y) -> i.visited(P, x, y, 1, 1));
        onTheMap(19, "visited of boxes", (i, x, y) -> i.visited(B, x, y, 1, 1));
        onTheMap(20, "nearest", (i, x, y) -> i.nearest(P, x, y, 1));
        onTheMap(21, "far", (i, x, y) -> i.far(B, x, y, 1));
        onTheMap(22, "visitedFor", (i, x, y) -> i.visitedFor(P, x, y, 1));
        onTheMap(22, "visitedFor, without the k-th", (i, x, y) -> i.visitedFor(B, x, y, 80));
        onTheMap(27, "corner", (i, x, y) -> i.corner(x, y));
        onTheMap(33, "visitedPacked", (i, x, y) -> i.visitedPacked(B, x, y, 1, 1));
    }

    private static void widths(int promise, String name, Twins.OnPlace call) {
        says(promise, "Throws IllegalArgumentException if w or h is not 0 to 1023");
        from0To(1023, name + ", w", (i, w) -> call.at(i, w, 0));
        from0To(1023, name + ", w, with the greatest h", (i, w) -> call.at(i, w, 1023));
        from0To(1023, name + ", h", (i, h) -> call.at(i, 0, h));
        from0To(1023, name + ", h, with the greatest w", (i, h) -> call.at(i, 1023, h));
    }

    private static void boxesAskedFor() {
        for (int corner : new int[] {0, 1023}) {
            widths(18, "inBox", (i, w, h) -> i.inBox(P, corner, corner, w, h));
            widths(19, "visited", (i, w, h) -> i.visited(B, corner, corner, w, h));
            widths(33, "visitedPacked", (i, w, h) -> i.visitedPacked(B, corner, corner, w, h));
        }
    }

    private static void sizes() {
        for (int promise : new int[] {3, 32}) {
            boolean sets = promise == 3;
            says(promise, "Throws IllegalArgumentException if size is not 1 to 8 for CAP, 2 to 8 for FAN");
            fromTo(1, 8, "CAP", (i, size) -> sets ? i.setSize(P, size) : i.nodesWith(P, size));
            fromTo(2, 8, "FAN", (i, size) -> sets ? i.setSize(B, size) : i.nodesWith(B, size));
        }
    }

    private static void tags() {
        says(4, "Throws IllegalArgumentException if tag is not 0 to 9");
        from0To(9, "the TAG of a point", (i, tag) -> i.addPoint(P, 1, 1, tag));
        says(5, "Throws IllegalArgumentException if tag is not 0 to 9");
        from0To(9, "the TAG of a box", (i, tag) -> i.addBox(B, 1, 1, 1, 1, tag));
        says(29, "Throws IllegalArgumentException if tag is not -1 to 9");
        fromTo(-1, 9, "the TAG of points asked for", (i, tag) -> i.inFence(P, tag));
        fromTo(-1, 9, "the TAG of boxes asked for", (i, tag) -> i.inFence(B, tag));
    }

    private static void boxesThatCome() {
        says(5, "Throws IllegalArgumentException if w or h is not 0 to 200");
        // Amid the map too, where x + w and y + h are on it.
        from0To(200, "w, amid the map", (i, w) -> i.addBox(B, 500, 500, w, 0, 0));
        from0To(200, "h, amid the map", (i, h) -> i.addBox(B, 500, 500, 0, h, 0));
        from0To(200, "w", (i, w) -> i.addBox(B, 0, 0, w, 0, 0));
        from0To(200, "w, with the greatest h", (i, w) -> i.addBox(B, 0, 0, w, 200, 0));
        from0To(200, "h", (i, h) -> i.addBox(B, 0, 0, 0, h, 0));
        from0To(200, "h, with the greatest w", (i, h) -> i.addBox(B, 0, 0, 200, h, 0));
        says(5, "Throws IllegalArgumentException if x + w or y + h is above 1023");
        for (int wide : new int[] {1, 2, 100, 199, 200}) {
            Twins.allowed("x + w 1023", Made::mixed, i -> i.addBox(B, 1023 - wide, 7, wide, 1, 0));
            Twins.refused(Twins.ARGUMENT, "x + w 1024, w " + wide, Made::mixed, i -> i.addBox(B, 1024 - wide, 7, wide, 1, 0));
            Twins.allowed("y + h 1023", Made::mixed, i -> i.addBox(B, 7, 1023 - wide, 1, wide, 0));
            Twins.refused(Twins.ARGUMENT, "y + h 1024, h " + wide, Made::mixed, i -> i.addBox(B, 7, 1024 - wide, 1, wide, 0));
        }
        Twins.allowed("both 1023", Made::mixed, i -> i.addBox(B, 823, 823, 200, 200, 0));
        Twins.refused(Twins.ARGUMENT, "x + w 1223", Made::mixed, i -> i.addBox(B, 1023, 0, 200, 0, 0));
        Twins.refused(Twins.ARGUMENT, "y + h 1223", Made::mixed, i -> i.addBox(B, 0, 1023, 0, 200, 0));
    }

    private static void boxesThatMove() {
        says(7, "Throws IllegalArgumentException if x or y is not 0 to 1023");
        for (int wrong : new int[] {-1, -40, -200, 1024, LEAST, MOST, MOST - 30}) {
            Twins.refused(Twins.ARGUMENT, "a box to x " + wrong, Made::mixed, i -> i.move(A_BOX, wrong, 0));
            Twins.refused(Twins.ARGUMENT, "a box to y " + wrong, Made::mixed, i -> i.move(A_BOX, 0, wrong));
        }
        says(7, "Throws IllegalArgumentException if x + w or y + h is above 1023");
        Twins.allowed("x + w 1023", Made::mixed, i -> i.move(A_BOX, 993, 0));
        Twins.refused(Twins.ARGUMENT, "x + w 1024", Made::mixed, i -> i.move(A_BOX, 994, 0));
        Twins.allowed("y + h 1023", Made::mixed, i -> i.move(A_BOX, 0, 983));
        Twins.refused(Twins.ARGUMENT, "y + h 1024", Made::mixed, i -> i.move(A_BOX, 0, 984));
        Twins.allowed("both 1023", Made::mixed, i -> i.move(WIDE_BOX, 823, 823));
        Twins.refused(Twins.ARGUMENT, "x + w 1024 of a wide one", Made::mixed, i -> i.move(WIDE_BOX, 824, 823));
        Twins.refused(Twins.ARGUMENT, "y + h 1024 of a wide one", Made::mixed, i -> i.move(WIDE_BOX, 823, 824));
        Twins.refused(Twins.ARGUMENT, "x + w 1223", Made::mixed, i -> i.move(WIDE_BOX, 1023, 0));
        Twins.refused(Twins.ARGUMENT, "y + h 1223", Made::mixed, i -> i.move(WIDE_BOX, 0, 1023));
    }

    private static void rows() {
        says(6, "Throws IllegalArgumentException if stepX or stepY is not 0 to 1023");
        from0To(1023, "stepX", (i, step) -> i.addRow(P, 1023, 1023, step, 0, 30));
        from0To(1023, "stepY", (i, step) -> i.addRow(P, 1023, 1023, 0, step, 30));
        says(6, "Throws IllegalArgumentException if count is not 1 to 30");
        fromTo(1, 30, "count", (i, count) -> i.addRow(P, 1, 1, 1, 1, count));
    }

    private static void othersFromTo() {
        says(12, "Throws IllegalArgumentException if what is not 0 to 6");
        from0To(6, "what of a point", (i, what) -> i.of(A_POINT, what));
        from0To(6, "what of a box", (i, what) -> i.of(A_BOX, what));
        says(15, "Throws IllegalArgumentException if what is not 0 to 4");
        from0To(4, "what", (i, what) -> i.leaf(P, 1, 1, what));
        says(17, "Throws IllegalArgumentException if what is not 0 to 4");
        from0To(4, "what of a leaf", (i, what) -> i.node(B, 0, 0, what));
        from0To(4, "what of a node above", (i, what) -> i.node(B, 1, 0, what));
        says(20, "Throws IllegalArgumentException if k is not 1 to 80");
        fromTo(1, 80, "k of nearest", (i, k) -> i.nearest(P, 1, 1, k));
        says(21, "Throws IllegalArgumentException as with nearest()");
        fromTo(1, 80, "k of far", (i, k) -> i.far(P, 1, 1, k));
        says(22, "Throws IllegalArgumentException as with nearest()");
        fromTo(1, 80, "k of visitedFor", (i, k) -> i.visitedFor(P, 1, 1, k));
        String far = "Throws IllegalArgumentException if far is not 0 to 3000000";
        says(23, far);
        from0To(3000000, "far of pairs", (i, number) -> i.pairs(P, B, number));
        says(24, far);
        from0To(3000000, "far of visitedPairs", (i, number) -> i.visitedPairs(B, P, number));
        for (int wrong : new int[] {-1, 3000001}) {
            Twins.refused(Twins.ARGUMENT, "far " + wrong + " of visitedPairs without nodes", LimitsTest::neverPacked,
                    index -> index.visitedPairs(0, 0, wrong));
        }
        says(25, far);
        from0To(3000000, "far of clusters", (i, number) -> i.clusters(P, number));
        says(26, far);
        from0To(3000000, "far of greatest", (i, number) -> i.greatest(B, number));
    }

    private static CairnIndex neverPacked() {
        CairnIndex index = new CairnIndex();
        index.addLayer(false);
        index.addBox(0, 1, 1, 1, 1, 1);
        return index;
    }

    private static void levelsAndNodes() {
        says(16, "Throws IllegalArgumentException if level is below 0");
        for (int right : new int[] {0, 1, 2, 3, 1000, MOST}) {
            Twins.allowed("level " + right, Made::mixed, index -> index.level(B, right));
        }
        for (int wrong : new int[] {-1, -2, LEAST}) {
            Twins.refused(Twins.ARGUMENT, "level " + wrong, Made::mixed, index -> index.level(B, wrong));
        }
        says(17, "Throws IndexOutOfBoundsException if there is, in one of BOXES, no such node");
        // Five boxes by FAN 2: three leaves, two nodes above them, the root.
        int[] nodes = {3, 2, 1};
        for (int level = 0; level < nodes.length; level++) {
            int asked = level;
            for (int node = 0; node < nodes[level]; node++) {
                int right = node;
                Twins.allowed("node " + right + " on level " + asked, Made::mixed, index -> index.node(B, asked, right, 0));
            }
            for (int wrong : new int[] {nodes[level], nodes[level] + 1, -1, LEAST, MOST}) {
                Twins.refused(Twins.BOUNDS, "node " + wrong + " on level " + asked, Made::mixed, index -> index.node(B, asked, wrong, 0));
            }
        }
        for (int wrong : new int[] {3, -1, LEAST, MOST}) {
            Twins.refused(Twins.BOUNDS, "a node on level " + wrong, Made::mixed, index -> index.node(B, wrong, 0, 0));
        }
        Twins.refused(Twins.BOUNDS, "a node of a layer that was never packed", LimitsTest::neverPacked,
                index -> index.node(0, 0, 0, 0));
    }

    // ---- things that are there

    private static void noSuchThing(int promise, String name, Twins.OnNumber call) {
        says(promise, "Throws IndexOutOfBoundsException if there is no such THING, or it is GONE");
        Twins.refused(Twins.BOUNDS, name + " ahead of all things", CairnIndex::new, index -> call.at(index, 0));
        for (int right : new int[] {0, 3, 5, 7, 9}) {
            Twins.allowed(name + " of thing " + right, Made::mixed, index -> call.at(index, right));
        }
        for (int gone : new int[] {4, 8}) {
            Twins.refused(Twins.BOUNDS, name + " of thing " + gone + ", GONE", Made::mixed, index -> call.at(index, gone));
        }
        for (int wrong : new int[] {10, -1, 80, LEAST, MOST}) {
            Twins.refused(Twins.BOUNDS, name + " of thing " + wrong, Made::mixed, index -> call.at(index, wrong));
        }
        Twins.allowed(name + " of thing 79", Made::full, index -> call.at(index, 79));
        Twins.refused(Twins.BOUNDS, name + " of thing 80 of 80", Made::full, index -> call.at(index, 80));
    }

    private static void thingsThatAreThere() {
        noSuchThing(7, "move", (i, thing) -> i.move(thing, 1, 1));
        noSuchThing(8, "remove", (i, thing) -> i.remove(thing));
        noSuchThing(12, "of", (i, thing) -> i.of(thing, 0));
    }

    // ---- what is full, or not enough

    private static void fullLayers() {
        says(2, "Throws IllegalStateException if there are 4");
        for (boolean isPoints : new boolean[] {true, false}) {
            Twins.allowed("a fourth layer", 3, () -> Made.layers(3, true), index -> index.addLayer(isPoints));
            Twins.refused(Twins.STATE, "a fifth layer", () -> Made.layers(4, true), index -> index.addLayer(isPoints));
            Twins.refused(Twins.STATE, "a fifth layer of those", () -> Made.layers(4, false), index -> index.addLayer(isPoints));
        }
    }

    private static void fullOfThings() {
        says(4, "Throws IllegalStateException if there were 80");
        Twins.allowed("the last point", 79, () -> Made.crowded(79), index -> index.addPoint(P, 1, 1, 1));
        Twins.refused(Twins.STATE, "a point more", Made::full, index -> index.addPoint(P, 1, 1, 1));
        says(5, "Throws IllegalStateException if there were 80");
        Twins.allowed("the last box", 79, () -> Made.crowded(79), index -> index.addBox(B, 1, 1, 1, 1, 1));
        Twins.refused(Twins.STATE, "a box more", Made::full, index -> index.addBox(B, 1, 1, 1, 1, 1));
        says(6, "Throws IllegalStateException if there would be more than 80");
        for (int count = 1; count <= 29; count++) {
            int more = count;
            Twins.Maker maker = () -> Made.crowded(80 - more);
            Twins.allowed("a row of " + more + " up to 80", 80 - more, maker, index -> index.addRow(P, 1, 1, 1, 1, more));
            Twins.refused(Twins.STATE, "a row of " + (more + 1) + " up to 81", maker, index -> index.addRow(P, 1, 1, 1, 1, more + 1));
        }
        Twins.allowed("a row of 30 up to 80", 50, () -> Made.crowded(50), index -> index.addRow(P, 1, 1, 1, 1, 30));
        Twins.refused(Twins.STATE, "a row of 30 up to 81", () -> Made.crowded(51), index -> index.addRow(P, 1, 1, 1, 1, 30));
        Twins.refused(Twins.STATE, "a row of 1 with 80", Made::full, index -> index.addRow(P, 1, 1, 1, 1, 1));
        Twins.refused(Twins.STATE, "a row of 30 with 80", Made::full, index -> index.addRow(P, 1, 1, 1, 1, 30));
    }

    private static CairnIndex withCorners(int count) {
        CairnIndex index = Made.mixed();
        index.clear();
        for (int corner = 0; corner < count; corner++) {
            index.corner(corner * 140, corner * corner * 20);
        }
        return index;
    }

    private static void fences() {
        says(27, "Throws IllegalStateException if it has 8");
        for (int count = 0; count < 8; count++) {
            int corners = count;
            Twins.allowed("a corner with " + corners, corners + 1, () -> withCorners(corners), index -> index.corner(1, 1));
        }
        Twins.refused(Twins.STATE, "a ninth corner", () -> withCorners(8), index -> index.corner(1, 1));
        says(29, "Throws IllegalStateException if it has fewer than 3 CORNERS");
        for (int count = 0; count <= 8; count++) {
            int corners = count;
            for (int layer : new int[] {P, B}) {
                for (int tag : new int[] {-1, 0}) {
                    Twins.Act act = index -> index.inFence(layer, tag);
                    if (corners < 3) {
                        Twins.refused(Twins.STATE, "inFence with " + corners + " corners", () -> withCorners(corners), act);
                    } else {
                        Twins.allowed("inFence with " + corners + " corners", () -> withCorners(corners), act);
                    }
                }
            }
        }
    }

    public static void main(String[] args) {
        layersThatAreThere();
        kindsOfLayers();
        places();
        boxesAskedFor();
        sizes();
        tags();
        boxesThatCome();
        boxesThatMove();
        rows();
        othersFromTo();
        levelsAndNodes();
        thingsThatAreThere();
        fullLayers();
        fullOfThings();
        fences();
        Checks.end();
    }
}
