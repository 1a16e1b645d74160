/** Promises 1 to 12. */
public final class LayersAndThingsTest {
    private static void fill(CairnIndex index, int until) {
        while (index.things() < until) {
            index.addPoint(0, index.things() * 7, index.things() * 3, 1);
        }
    }

    private static void newObject() {
        CairnIndex index = new CairnIndex();
        Checks.due("things", 0, index.things());
        Checks.due("area", 0, index.area());
        Checks.due("clear", 0, index.clear());
        Checks.due("digest", 58069L * 31 * 31, index.digest());
        Checks.noLayer(index, "size(0)", () -> index.size(0));
        Checks.noLayer(index, "of(0, 0)", () -> index.of(0, 0));
    }

    private static void addLayer() {
        CairnIndex index = new CairnIndex();
        for (int number = 0; number < 4; number++) {
            Checks.due("addLayer", number, index.addLayer(number % 2 == 0));
            Checks.due("nodes of the new one", number % 2 == 0 ? 1 : 0, index.nodes(number));
            Checks.due("size of the new one", 0, index.size(number));
        }
        Checks.badState(index, "a fifth layer", () -> index.addLayer(true));
        Checks.badState(index, "a fifth layer", () -> index.addLayer(false));
        Checks.noLayer(index, "size(4)", () -> index.size(4));
        Checks.noLayer(index, "size(-1)", () -> index.size(-1));
    }

    private static void setSize() {
        CairnIndex index = Made.twoEmpty();
        Checks.due("CAP at first", 4, index.setSize(0, 1));
        Checks.due("CAP before", 1, index.setSize(0, 8));
        Checks.due("FAN at first", 4, index.setSize(1, 2));
        Checks.due("FAN before", 2, index.setSize(1, 8));
        Checks.noLayer(index, "setSize(2, 0)", () -> index.setSize(2, 0));
        Checks.noLayer(index, "setSize(-1, 4)", () -> index.setSize(-1, 4));
        Checks.badArgument(index, "CAP 0", () -> index.setSize(0, 0));
        Checks.badArgument(index, "CAP 9", () -> index.setSize(0, 9));
        Checks.badArgument(index, "FAN 1", () -> index.setSize(1, 1));
        Checks.badArgument(index, "FAN 9", () -> index.setSize(1, 9));
        Checks.due("CAP after refusals", 8, index.setSize(0, 4));
        Checks.due("FAN after refusals", 8, index.setSize(1, 4));

        index.addRow(0, 0, 0, 255, 255, 5);
        for (int i = 0; i < 5; i++) {
            index.addBox(1, 10 * i, 0, 1, 1, 0);
        }
        index.pack(1);
        Checks.due("nodes with CAP 4", 5, index.nodes(0));
        index.setSize(0, 8);
        Checks.due("nodes with CAP 8, at once", 1, index.nodes(0));
        Checks.due("nodes with FAN 4", 3, index.nodes(1));
        index.setSize(1, 8);
        Checks.due("nodes with FAN 8, not packed with it", 3, index.nodes(1));
        Checks.due("packed with FAN 8", 1, index.pack(1));
        Checks.due("FAN of another layer of boxes", 4, index.setSize(index.addLayer(false), 2));
    }

    private static void addPoint() {
        CairnIndex index = Made.twoEmpty();
        Checks.due("the first", 0, index.addPoint(0, 0, 1023, 0));
        Checks.due("of another layer", 1, index.addBox(1, 0, 0, 0, 0, 0));
        Checks.due("over all layers", 2, index.addPoint(0, 1023, 0, 9));
        int[] due = {0, 1023, 0, 0, 0, 9, 0};
        for (int what = 0; what <= 6; what++) {
            Checks.due("of(2, " + what + ")", due[what], index.of(2, what));
        }
        Checks.due("size", 2, index.size(0));
        Checks.noLayer(index, "no layer, first", () -> index.addPoint(2, -1, -1, -1));
        Checks.noLayer(index, "no layer", () -> index.addPoint(-1, 0, 0, 0));
        Checks.badArgument(index, "a layer of boxes", () -> index.addPoint(1, 0, 0, 0));
        Checks.badArgument(index, "x -1", () -> index.addPoint(0, -1, 0, 0));
        Checks.badArgument(index, "x 1024", () -> index.addPoint(0, 1024, 0, 0));
        Checks.badArgument(index, "y -1", () -> index.addPoint(0, 0, -1, 0));
        Checks.badArgument(index, "y 1024", () -> index.addPoint(0, 0, 1024, 0));
        Checks.badArgument(index, "tag -1", () -> index.addPoint(0, 0, 0, -1));
        Checks.badArgument(index, "tag 10", () -> index.addPoint(0, 0, 0, 10));

        CairnIndex full = Made.twoEmpty();
        fill(full, 79);
        Checks.due("the last one", 79, full.addPoint(0, 5, 5, 5));
        full.remove(3);
        Checks.badState(full, "one more than 80, though one is gone", () -> full.addPoint(0, 0, 0, 0));
        Checks.badArgument(full, "a wrong x, ahead of that", () -> full.addPoint(0, 1024, 0, 0));
        Checks.badArgument(full, "a layer of boxes, ahead of that", () -> full.addPoint(1, 0, 0, 0));
        Checks.noLayer(full, "no layer, ahead of all", () -> full.addPoint(2, 1024, 0, 0));
    }

    private static void addBox() {
        CairnIndex index = Made.twoEmpty();
        Checks.due("the first", 0, index.addBox(1, 823, 823, 200, 200, 9));
        Checks.due("without width", 1, index.addBox(1, 1023, 1023, 0, 0, 0));
        Checks.due("of some size", 2, index.addBox(1, 10, 20, 30, 40, 5));
        int[] due = {1, 10, 20, 30, 40, 5, 1};
        for (int what = 0; what <= 6; what++) {
            Checks.due("of(2, " + what + ")", due[what], index.of(2, what));
        }
        Checks.due("nodes", 0, index.nodes(1));
        Checks.noLayer(index, "no layer, first", () -> index.addBox(2, -1, 0, 0, 0, 0));
        Checks.badArgument(index, "a layer of points", () -> index.addBox(0, 0, 0, 0, 0, 0));
        int most = Integer.MAX_VALUE;
        int[][] wrong = {{-1, 0, 0, 0, 0}, {1024, 0, 0, 0, 0}, {0, -1, 0, 0, 0}, {0, 1024, 0, 0, 0}, {0, 0, -1, 0, 0},
            {0, 0, 201, 0, 0}, {0, 0, 0, -1, 0}, {0, 0, 0, 201, 0}, {824, 0, 200, 0, 0}, {0, 824, 0, 200, 0},
            {1023, 0, 1, 0, 0}, {0, 1023, 0, 1, 0}, {-1, 0, 5, 5, 0}, {0, -1, 5, 5, 0}, {0, 0, 0, 0, -1}, {0, 0, 0, 0, 10}, {1, 0, most, 0, 0},
            {0, 1, 0, most, 0}, {most, 0, 1, 0, 0}};
        for (int[] w : wrong) {
            Checks.badArgument(index, "addBox(1, " + java.util.Arrays.toString(w) + ")",
                    () -> index.addBox(1, w[0], w[1], w[2], w[3], w[4]));
        }

        CairnIndex full = Made.twoEmpty();
        fill(full, 80);
        Checks.badState(full, "one more than 80", () -> full.addBox(1, 0, 0, 0, 0, 0));
        Checks.badArgument(full, "a wrong tag, ahead of that", () -> full.addBox(1, 0, 0, 0, 0, 10));
        Checks.noLayer(full, "no layer, ahead of all", () -> full.addBox(4, 0, 0, 0, 0, 10));
    }

    private static void addRow() {
        CairnIndex index = Made.twoEmpty();
        Checks.due("a row", 0, index.addRow(0, 1020, 5, 3, 1023, 12));
        int[] xs = {1020, 1023, 2, 5};
        int[] ys = {5, 4, 3, 2};
        for (int k = 0; k < 4; k++) {
            Checks.due("x of " + k, xs[k], index.of(k, 1));
            Checks.due("y of " + k, ys[k], index.of(k, 2));
            Checks.due("tag of " + k, k, index.of(k, 5));
        }
        Checks.due("tag of 9", 9, index.of(9, 5));
        Checks.due("tag of 10", 0, index.of(10, 5));
        Checks.due("y of 6", 1023, index.of(6, 2));
        Checks.due("w", 0, index.of(6, 3));
        Checks.due("LOOSE", 0, index.of(6, 6));
        Checks.due("a row of one", 12, index.addRow(0, 0, 0, 0, 0, 1));
        Checks.due("a row of 30", 13, index.addRow(0, 0, 0, 1, 1, 30));
        Checks.due("size", 43, index.size(0));
        Checks.noLayer(index, "no layer, first", () -> index.addRow(2, 0, 0, 0, 0, 0));
        Checks.badArgument(index, "a layer of boxes", () -> index.addRow(1, 0, 0, 0, 0, 1));
        int[][] wrong = {{-1, 0, 0, 0, 1}, {1024, 0, 0, 0, 1}, {0, -1, 0, 0, 1}, {0, 1024, 0, 0, 1}, {0, 0, -1, 0, 1},
            {0, 0, 1024, 0, 1}, {0, 0, 0, -1, 1}, {0, 0, 0, 1024, 1}, {0, 0, 0, 0, 0}, {0, 0, 0, 0, 31}, {0, 0, 0, 0, -1}};
        for (int[] w : wrong) {
            Checks.badArgument(index, "addRow(0, " + java.util.Arrays.toString(w) + ")",
                    () -> index.addRow(0, w[0], w[1], w[2], w[3], w[4]));
        }
        fill(index, 51);
        Checks.badState(index, "30 with 51", () -> index.addRow(0, 0, 0, 0, 0, 30));
        Checks.badArgument(index, "31 with 51", () -> index.addRow(0, 0, 0, 0, 0, 31));
        Checks.due("29 with 51", 51, index.addRow(0, 0, 0, 0, 0, 29));
        Checks.badState(index, "1 with 80", () -> index.addRow(0, 0, 0, 0, 0, 1));
        Checks.noLayer(index, "no layer, ahead of all", () -> index.addRow(3, 0, 0, 0, 0, 1));
    }

    private static void move() {
        CairnIndex index = Made.twoEmpty();
        index.addPoint(0, 100, 100, 7);
        index.addBox(1, 100, 100, 10, 20, 8);
        Checks.due("a point", 25, index.move(0, 103, 104));
        Checks.due("a point, to where it is", 0, index.move(0, 103, 104));
        Checks.due("a point is never LOOSE", 0, index.of(0, 6));
        Checks.due("a point, across the map", 103 * 103 + 104 * 104, index.move(0, 0, 0));
        Checks.due("its leaf has it", 1, index.leaf(0, 0, 0, 3));
        Checks.due("pack", 1, index.pack(1));
        Checks.due("not LOOSE", 0, index.of(1, 6));
        Checks.due("a box, to where it is", 0, index.move(1, 100, 100));
        Checks.due("LOOSE then", 1, index.of(1, 6));
        Checks.due("out of its leaf", 0, index.node(1, 0, 0, 4));
        Checks.due("a box that touches", 0, index.move(1, 110, 120));
        Checks.due("a box aside", 1, index.move(1, 121, 140));
        Checks.due("a box aside and above", 9 + 16, index.move(1, 134, 164));
        Checks.due("a box back", 9 + 16, index.move(1, 121, 140));
        Checks.due("a box to the left and above", 4 + 25, index.move(1, 109, 165));
        int[] due = {1, 109, 165, 10, 20, 8};
        for (int what = 0; what <= 5; what++) {
            Checks.due("of(1, " + what + ")", due[what], index.of(1, what));
        }
        Checks.due("to the edge", 894 * 894 + 818 * 818, index.move(1, 1013, 1003));
        Checks.badArgument(index, "x + w 1024", () -> index.move(1, 1014, 0));
        Checks.badArgument(index, "y + h 1024", () -> index.move(1, 0, 1004));
        Checks.badArgument(index, "x -1", () -> index.move(0, -1, 0));
        Checks.badArgument(index, "x -1 of a box", () -> index.move(1, -1, 0));
        Checks.badArgument(index, "y -1 of a box", () -> index.move(1, 0, -1));
        Checks.badArgument(index, "x 1024", () -> index.move(0, 1024, 0));
        Checks.badArgument(index, "y -1", () -> index.move(0, 0, -1));
        Checks.badArgument(index, "y 1024", () -> index.move(0, 0, 1024));
        Checks.badArgument(index, "a great x", () -> index.move(1, Integer.MAX_VALUE, 0));
        Checks.noLayer(index, "no thing, first", () -> index.move(2, -1, 0));
        Checks.noLayer(index, "thing -1", () -> index.move(-1, 0, 0));
        index.pack(1);
        Checks.badArgument(index, "a packed box out of the map", () -> index.move(1, 1014, 0));
        Checks.due("not LOOSE after that", 0, index.of(1, 6));
        index.remove(1);
        Checks.noLayer(index, "one that is gone", () -> index.move(1, -1, 0));
    }

    private static void remove() {
        CairnIndex index = Made.twoEmpty();
        index.addRow(0, 0, 0, 300, 300, 5);
        index.addBox(1, 0, 0, 10, 10, 0);
        index.addBox(1, 50, 50, 10, 10, 0);
        index.pack(1);
        Checks.due("nodes", 5, index.nodes(0));
        Checks.due("remove a point", 4, index.remove(2));
        Checks.due("nodes then", 1, index.nodes(0));
        Checks.due("remove a box", 1, index.remove(6));
        Checks.due("its leaf has one left", 1, index.node(1, 0, 0, 4));
        Checks.due("its leaf is as wide as before", 60, index.node(1, 0, 0, 2));
        Checks.due("the last box", 0, index.remove(5));
        Checks.due("its leaf is left", 1, index.nodes(1));
        Checks.due("with nothing in it", 0, index.node(1, 0, 0, 4));
        Checks.due("there were", 7, index.things());
        Checks.due("pack without things", 0, index.pack(1));
        Checks.noLayer(index, "once more", () -> index.remove(2));
        Checks.noLayer(index, "thing 7", () -> index.remove(7));
        Checks.noLayer(index, "thing -1", () -> index.remove(-1));
        Checks.noLayer(index, "a great number", () -> index.remove(Integer.MAX_VALUE));
        Checks.noLayer(index, "of one that is gone", () -> index.of(2, 9));
    }

    private static void pack() {
        CairnIndex index = Made.twoEmpty();
        Checks.due("pack nothing", 0, index.pack(1));
        for (int i = 0; i < 4; i++) {
            index.addBox(1, 100 * i, 0, 10, 10, 0);
        }
        Checks.due("4 boxes", 1, index.pack(1));
        index.addBox(1, 400, 0, 10, 10, 0);
        Checks.due("LOOSE", 1, index.of(4, 6));
        Checks.due("the first is not", 0, index.of(0, 6));
        Checks.due("5 boxes", 3, index.pack(1));
        Checks.due("not LOOSE", 0, index.of(4, 6));
        index.setSize(1, 2);
        Checks.due("FAN 2: 3, 2 and 1", 6, index.pack(1));
        Checks.due("again", 6, index.pack(1));
        Checks.badArgument(index, "a layer of points", () -> index.pack(0));
        Checks.noLayer(index, "no layer", () -> index.pack(2));
        Checks.noLayer(index, "layer -1", () -> index.pack(-1));
    }

    private static void thingsSizeAndOf() {
        CairnIndex index = Made.twoEmpty();
        index.addRow(0, 0, 0, 1, 1, 3);
        index.addBox(1, 0, 0, 1, 2, 3);
        Checks.due("things", 4, index.things());
        Checks.due("size of points", 3, index.size(0));
        Checks.due("size of boxes", 1, index.size(1));
        index.remove(0);
        Checks.due("things", 4, index.things());
        Checks.due("size of points", 2, index.size(0));
        Checks.noLayer(index, "size(2)", () -> index.size(2));
        Checks.badArgument(index, "of(1, 7)", () -> index.of(1, 7));
        Checks.badArgument(index, "of(1, -1)", () -> index.of(1, -1));
        Checks.noLayer(index, "of(4, 0)", () -> index.of(4, 0));
        Checks.noLayer(index, "of(-1, 7), the thing first", () -> index.of(-1, 7));
        Checks.noLayer(index, "of(0, 0), gone", () -> index.of(0, 0));
    }

    public static void main(String[] args) {
        newObject();
        addLayer();
        setSize();
        addPoint();
        addBox();
        addRow();
        move();
        remove();
        pack();
        thingsSizeAndOf();
        Checks.end();
    }
}
