/** Objects to be asked, each made anew in the same way. */
final class Made {
    /** The layers of mixed() and full(). */
    static final int POINTS = 0;
    static final int BOXES = 1;

    private Made() {
    }

    /**
     * A layer of points and one of boxes, which is packed by FAN 2, with FAN 3 for the next time; things
     * 4 (a point) and 8 (a box) are gone, thing 7 (a box) is LOOSE; things 5 and 6 are boxes; a fence.
     */
    static CairnIndex mixed() {
        CairnIndex index = twoEmpty();
        index.setSize(POINTS, 2);
        index.addRow(POINTS, 100, 100, 150, 130, 5);
        index.addBox(BOXES, 10, 20, 30, 40, 5);
        index.addBox(BOXES, 823, 823, 200, 200, 9);
        index.addBox(BOXES, 400, 300, 0, 0, 0);
        index.addBox(BOXES, 500, 100, 20, 10, 3);
        index.addBox(BOXES, 600, 700, 5, 5, 1);
        index.setSize(BOXES, 2);
        index.pack(BOXES);
        index.setSize(BOXES, 3);
        index.move(7, 401, 300);
        index.remove(4);
        index.remove(8);
        corners(index, 10, 10, 900, 20, 500, 800);
        return index;
    }

    /** Layers of one kind, with one thing each, packed if of boxes, and a fence. */
    static CairnIndex layers(int count, boolean isPoints) {
        CairnIndex index = new CairnIndex();
        for (int layer = 0; layer < count; layer++) {
            index.addLayer(isPoints);
            if (isPoints) {
                index.addPoint(layer, 30, 40, layer);
            } else {
                index.addBox(layer, 30, 40, 50, 60, layer);
                index.pack(layer);
            }
        }
        return corners(index, 0, 0, 1023, 0, 0, 1023);
    }

    /** 40 points in layer 0 and, up to a number of things in all (41 at least), boxes in layer 1; three are gone. */
    static CairnIndex crowded(int things) {
        CairnIndex index = twoEmpty();
        index.addRow(POINTS, 3, 5, 211, 97, 30);
        index.addRow(POINTS, 400, 300, 31, 47, 10);
        for (int thing = 40; thing < things; thing++) {
            int nth = thing - 40;
            index.addBox(BOXES, nth * 20, nth * 21, nth, 200 - thing, thing % 10);
        }
        index.pack(BOXES);
        index.remove(0);
        index.remove(39);
        index.remove(40);
        return index;
    }

    /** Empty layers of these kinds, one after the other. */
    static CairnIndex empty(boolean... isPoints) {
        CairnIndex index = new CairnIndex();
        for (boolean kind : isPoints) {
            index.addLayer(kind);
        }
        return index;
    }

    /** Layer 0 of points and layer 1 of boxes, both empty. */
    static CairnIndex twoEmpty() {
        return empty(true, false);
    }

    static CairnIndex full() {
        return crowded(80);
    }

    /** A layer of points with this CAP, and points at these places. */
    static CairnIndex points(int cap, int... places) {
        CairnIndex index = new CairnIndex();
        index.addLayer(true);
        index.setSize(0, cap);
        for (int i = 0; i + 1 < places.length; i += 2) {
            index.addPoint(0, places[i], places[i + 1], 0);
        }
        return index;
    }

    /** A layer of boxes with this FAN, and boxes of this x, y, w and h, packed. */
    static CairnIndex packed(int fan, int[]... places) {
        CairnIndex index = new CairnIndex();
        index.addLayer(false);
        index.setSize(0, fan);
        for (int[] place : places) {
            index.addBox(0, place[0], place[1], place[2], place[3], 0);
        }
        index.pack(0);
        return index;
    }

    static CairnIndex corners(CairnIndex index, int... places) {
        index.clear();
        for (int i = 0; i + 1 < places.length; i += 2) {
            index.corner(places[i], places[i + 1]);
        }
        return index;
    }
}
