import java.math.BigInteger;

/** In which order things and nodes stand: of several the smaller number, or the one ahead in the row; what is smaller at the end. */
public final class OrderTest {
    private static int[] box(int x, int y, int w, int h) {
        return new int[] {x, y, w, h};
    }

    private static int[] at(int x, int y) {
        return box(x, y, 0, 0);
    }

    // ---- leaves

    private static void byMiddlesInX() {
        Checks.says("they are put in order by 2 * x + w");
        // By x alone, or by x + w, the last box would not be the one that is left over.
        CairnIndex index = Made.packed(2, box(0, 0, 200, 0), at(90, 0), at(80, 0), at(70, 0), at(101, 0));
        Due.node(index, 0, 2, 101, 0, 0, 0, 1);
        CairnIndex odd = Made.packed(2, box(0, 0, 199, 0), at(99, 0), at(98, 0), at(97, 0), at(96, 0));
        Due.node(odd, 0, 2, 0, 0, 199, 0, 1);
    }

    private static void smallerNumberFirstInX() {
        Checks.says("in order by 2 * x + w, of several the smaller number first");
        // 2 * x + w is 14 for all: the first four make the first slice, whatever their y.
        CairnIndex index = Made.packed(2, at(7, 50), box(6, 40, 2, 0), box(5, 30, 4, 0), at(7, 20), box(4, 10, 6, 0));
        Due.node(index, 0, 0, 5, 20, 4, 10, 2);
        Due.node(index, 0, 1, 6, 40, 2, 10, 2);
        Due.node(index, 0, 2, 4, 10, 6, 0, 1);
        // Being moved does not change the number: 0 is first still, and 4 is left over.
        index.move(0, 7, 60);
        index.move(3, 7, 0);
        index.pack(0);
        Due.node(index, 0, 1, 6, 40, 2, 20, 2);
        Due.node(index, 0, 2, 4, 10, 6, 0, 1);
        // One that goes makes room for the next number.
        index.remove(2);
        index.addBox(0, 7, 0, 0, 0, 0);
        index.pack(0);
        Due.node(index, 0, 0, 4, 0, 6, 10, 2);
        Due.node(index, 0, 1, 6, 40, 2, 20, 2);
        Due.node(index, 0, 2, 7, 0, 0, 0, 1);
    }

    private static void byMiddlesInY() {
        Checks.says("each slice is put in order by 2 * y + h");
        CairnIndex index = Made.packed(2, box(0, 0, 0, 200), at(0, 90), at(0, 101));
        Due.node(index, 0, 0, 0, 0, 0, 200, 2);
        Due.node(index, 0, 1, 0, 101, 0, 0, 1);
        CairnIndex odd = Made.packed(2, box(0, 0, 0, 199), at(0, 99), at(0, 98));
        Due.node(odd, 0, 0, 0, 98, 0, 1, 2);
        Due.node(odd, 0, 1, 0, 0, 0, 199, 1);
    }

    private static void smallerNumberFirstInY() {
        Checks.says("in order by 2 * y + h, of several the smaller number first");
        // 2 * y + h is 14 for all of the one slice; by x they would stand the other way round.
        CairnIndex index = Made.packed(2, at(30, 7), box(20, 6, 0, 2), box(10, 5, 0, 4));
        Due.node(index, 0, 0, 20, 6, 10, 2, 2);
        Due.node(index, 0, 1, 10, 5, 0, 4, 1);
        index.move(0, 31, 7);
        index.pack(0);
        Due.node(index, 0, 0, 20, 6, 11, 2, 2);
        Due.node(index, 0, 1, 10, 5, 0, 4, 1);
    }

    // ---- slices

    /** So many things at x = 0, 10, 20 .., the even ones at y = 0, the odd ones at y = 100. */
    private static CairnIndex inTwoLines(int fan, int count) {
        int[][] places = new int[count][];
        for (int i = 0; i < count; i++) {
            places[i] = at(10 * i, i % 2 * 100);
        }
        return Made.packed(fan, places);
    }

    private static void howManySlices() {
        Checks.says("s as the smallest number with s * s not below p, they are cut in slices of s * FAN");
        // p 1, s 1
        CairnIndex two = inTwoLines(2, 2);
        Due.node(two, 0, 0, 0, 0, 10, 100, 2);
        // p 2, s 2: one slice
        CairnIndex four = inTwoLines(2, 4);
        Due.node(four, 0, 0, 0, 0, 20, 0, 2);
        Due.node(four, 0, 1, 10, 100, 20, 0, 2);
        // p 4, s 2: slices of 4
        CairnIndex eight = inTwoLines(2, 8);
        Checks.due("leaves of 8", 4, eight.level(0, 0));
        Due.node(eight, 0, 0, 0, 0, 20, 0, 2);
        Due.node(eight, 0, 1, 10, 100, 20, 0, 2);
        Due.node(eight, 0, 2, 40, 0, 20, 0, 2);
        Due.node(eight, 0, 3, 50, 100, 20, 0, 2);
        // p 9, s 3: slices of 6
        CairnIndex eighteen = inTwoLines(2, 18);
        Checks.due("leaves of 18", 9, eighteen.level(0, 0));
        Due.node(eighteen, 0, 2, 30, 100, 20, 0, 2);
        Due.node(eighteen, 0, 3, 60, 0, 20, 0, 2);
        // p 10, s 4: slices of 8
        CairnIndex twenty = inTwoLines(2, 20);
        Due.node(twenty, 0, 0, 0, 0, 20, 0, 2);
        Due.node(twenty, 0, 1, 40, 0, 20, 0, 2);
        Due.node(twenty, 0, 2, 10, 100, 20, 0, 2);
        // p 16, s 4, with FAN 5: slices of 20
        CairnIndex eighty = inTwoLines(5, 80);
        Checks.due("leaves of 80", 16, eighty.level(0, 0));
        Due.node(eighty, 0, 0, 0, 0, 80, 0, 5);
        Due.node(eighty, 0, 3, 110, 100, 80, 0, 5);
        Due.node(eighty, 0, 4, 200, 0, 80, 0, 5);
    }

    private static void oneMoreIfAnyAreLeft() {
        Checks.says("p as n / FAN, one more if any are left");
        // n 9, FAN 2: p is 5, not 4, so s is 3: slices of 6
        CairnIndex nine = inTwoLines(2, 9);
        Checks.due("leaves of 9", 5, nine.level(0, 0));
        Due.node(nine, 0, 0, 0, 0, 20, 0, 2);
        Due.node(nine, 0, 1, 10, 0, 30, 100, 2);
        Due.node(nine, 0, 2, 30, 100, 20, 0, 2);
        Due.node(nine, 0, 3, 60, 0, 20, 0, 2);
        // n 5, FAN 4: p is 2, not 1, so s is 2: one slice
        CairnIndex five = inTwoLines(4, 5);
        Due.node(five, 0, 0, 0, 0, 40, 100, 4);
        Due.node(five, 0, 1, 30, 100, 0, 0, 1);
        // n 19, FAN 2: p is 10, not 9, so s is 4: slices of 8
        CairnIndex nineteen = inTwoLines(2, 19);
        Due.node(nineteen, 0, 1, 40, 0, 20, 0, 2);
        Due.node(nineteen, 0, 4, 80, 0, 20, 0, 2);
        // n 7, FAN 2: p is 4, s stays 2
        CairnIndex seven = inTwoLines(2, 7);
        Due.node(seven, 0, 1, 10, 100, 20, 0, 2);
        Due.node(seven, 0, 2, 40, 0, 20, 0, 2);
    }

    private static void smallerAtTheEnd() {
        Checks.says("cut in slices of s * FAN, the last one maybe smaller .. leaves of FAN, the last one of each maybe smaller");
        CairnIndex seven = inTwoLines(2, 7);
        Checks.due("leaves of 7", 4, seven.level(0, 0));
        Due.node(seven, 0, 3, 50, 100, 0, 0, 1);
        CairnIndex nine = inTwoLines(2, 9);
        Due.node(nine, 0, 4, 70, 100, 0, 0, 1);
        // FAN 3, n 10: p is 4, s 2: slices of 6 and 4, so leaves of 3, 3, 3 and 1.
        CairnIndex ten = inTwoLines(3, 10);
        Checks.due("leaves of 10", 4, ten.level(0, 0));
        Due.node(ten, 0, 0, 0, 0, 40, 0, 3);
        Due.node(ten, 0, 1, 10, 100, 40, 0, 3);
        Due.node(ten, 0, 2, 60, 0, 20, 100, 3);
        Due.node(ten, 0, 3, 90, 100, 0, 0, 1);
        Checks.due("nodes above them", 2, ten.level(0, 1));
        Due.node(ten, 1, 0, 0, 0, 80, 100, 3);
        Due.node(ten, 1, 1, 90, 100, 0, 0, 1);
        Due.node(ten, 2, 0, 0, 0, 90, 100, 2);
    }

    // ---- nodes above the leaves

    private static void aheadInTheRowInY() {
        Checks.says("of several the one that is ahead in the row of these nodes");
        // Leaves 0 (things 0 and 1), 1 (2 and 3), 2 (4 and 5), which is lowest; of 0 and 1, whose middles
        // are equally high, 0 is ahead in the row, though it is to the right.
        CairnIndex index = Made.packed(2, at(40, 50), at(41, 50), at(10, 50), at(11, 50), at(90, 0), at(91, 0));
        Due.node(index, 0, 0, 40, 50, 1, 0, 2);
        Due.node(index, 0, 1, 10, 50, 1, 0, 2);
        Due.node(index, 0, 2, 90, 0, 1, 0, 2);
        Due.node(index, 1, 0, 40, 0, 51, 50, 2);
        Due.node(index, 1, 1, 10, 50, 1, 0, 1);
    }

    private static void aheadInTheRowInX() {
        Checks.says("of several the one that is ahead in the row of these nodes");
        // Five leaves, four of which make the first slice: 3 and 4 are equally far to the right, and 3 is ahead
        // in the row, though its things have the greater numbers.
        CairnIndex index = Made.packed(2, at(0, 0), at(0, 1), at(0, 2), at(0, 3), at(0, 4), at(0, 5),
                at(500, 20), at(500, 20), at(500, 10), at(500, 10));
        Due.node(index, 0, 3, 500, 10, 0, 0, 2);
        Due.node(index, 0, 4, 500, 20, 0, 0, 2);
        Checks.due("nodes above them", 3, index.level(0, 1));
        Due.node(index, 1, 1, 0, 4, 500, 6, 2);
        Due.node(index, 1, 2, 500, 20, 0, 0, 1);
    }

    private static void nodesByTheirMiddles() {
        Checks.says("packed to nodes above them in just this way (by the middles of their boxes, told so)");
        // Three leaves in one slice, put in order by the middles of their boxes, 100, 130 and 210 (twice), not by
        // their lower edges, 0, 60 and 5.
        CairnIndex index = Made.packed(2, at(0, 0), box(1, 49, 0, 2), box(2, 60, 0, 10), at(3, 70), box(9, 5, 0, 200), at(9, 105));
        Due.node(index, 0, 0, 0, 0, 1, 51, 2);
        Due.node(index, 0, 1, 2, 60, 1, 10, 2);
        Due.node(index, 0, 2, 9, 5, 0, 200, 2);
        Due.node(index, 1, 0, 0, 0, 3, 70, 2);
        Due.node(index, 1, 1, 9, 5, 0, 200, 1);
    }

    // ---- nearest

    private static void nearestOfSeveral() {
        Checks.says("all THINGS of the LAYER in order by how FAR they are from it, of several the smaller number first");
        CairnIndex index = Made.points(1, 505, 500, 500, 505, 495, 500, 500, 495, 503, 504, 500, 500, 497, 496);
        int[] order = {5, 0, 1, 2, 3, 4, 6};
        dueNearest(index, order);
        Checks.due("move 0 to as far on the other side", 100, index.move(0, 495, 500));
        dueNearest(index, order);
        Checks.due("move 3 just farther", 1, index.move(3, 500, 494));
        dueNearest(index, 5, 0, 1, 2, 4, 6, 3);
        index.remove(1);
        dueNearest(index, 5, 0, 2, 4, 6, 3);
        CairnIndex boxes = Made.packed(2, box(510, 400, 5, 200), box(400, 400, 90, 200), box(480, 510, 40, 9), box(290, 300, 200, 190));
        dueNearest(boxes, 0, 1, 2, 3);
        boxes.move(0, 510, 401);
        dueNearest(boxes, 0, 1, 2, 3);
        Checks.due("how FAR all are", 100, boxes.far(0, 500, 500, 1));
        Checks.due("how FAR all are", 100, boxes.far(0, 500, 500, 3));
        Checks.due("how FAR the last one is", 200, boxes.far(0, 500, 500, 4));
    }

    private static void dueNearest(CairnIndex index, int... order) {
        for (int k = 1; k <= order.length; k++) {
            Checks.due("nearest " + k, order[k - 1], index.nearest(0, 500, 500, k));
        }
        Checks.due("nearest " + (order.length + 1), -1, index.nearest(0, 500, 500, order.length + 1));
    }

    // ---- digest

    private static final BigInteger WRAP = BigInteger.ONE.shiftLeft(64);

    private static BigInteger exactly;

    private static void then(long v) {
        exactly = exactly.multiply(BigInteger.valueOf(31)).add(BigInteger.valueOf(v));
    }

    /** Puts the numbers of digest() together, without a wrap. */
    private static void putTogether(CairnIndex index, int layers, int... gone) {
        exactly = BigInteger.valueOf(58069);
        then(index.things());
        for (int thing = 0; thing < index.things(); thing++) {
            boolean isGone = false;
            for (int g : gone) {
                isGone |= g == thing;
            }
            for (int what = -1; !isGone && what <= 6; what++) {
                then(what < 0 ? thing : index.of(thing, what));
            }
        }
        for (int l = 0; l < layers; l++) {
            then(index.size(l));
            then(index.nodes(l));
            then(index.depth(l));
            then(index.inBox(l, 100, 100, 400, 300));
            then(index.visited(l, 100, 100, 400, 300));
            then(index.nearest(l, 512, 512, 3));
            then(index.far(l, 512, 512, 3));
            then(index.visitedFor(l, 512, 512, 3));
            then(index.clusters(l, 2500));
            then(index.greatest(l, 2500));
            then(index.nodesWith(l, 3));
        }
        for (int l = 0; l + 1 < layers; l++) {
            then(index.visitedPairs(l, l + 1, 900));
        }
        then(index.area());
    }

    private static void dueDigest(CairnIndex index, boolean wraps, int layers, int... gone) {
        putTogether(index, layers, gone);
        Checks.holds("it wraps: " + wraps, wraps == (exactly.bitLength() > 63));
        BigInteger digest = BigInteger.valueOf(index.digest());
        Checks.holds("digest", exactly.subtract(digest).mod(WRAP).signum() == 0);
        Checks.holds("the same again", digest.equals(BigInteger.valueOf(index.digest())));
    }

    private static CairnIndex fullOfAll() {
        CairnIndex index = Made.empty(true, false, true, false);
        index.setSize(0, 1);
        index.setSize(1, 2);
        for (int i = 0; i < 20; i++) {
            index.addPoint(0, i * 51, i * i % 1024, i % 10);
            index.addBox(1, i * 40, i * 13, i * 10, i, i % 10);
            index.addPoint(2, 500 + i, 512 + i % 3, 9 - i % 10);
            index.addBox(3, 823 - i * 40, i * 17, 200, 200 - i, 9);
        }
        index.pack(1);
        index.pack(3);
        Made.corners(index, 0, 0, 1023, 0, 1023, 1023, 0, 1023);
        return index;
    }

    private static void digestThatWraps() {
        Checks.says("d becomes d * 31 + v, which wraps around as a 64-bit integer");
        CairnIndex nothing = new CairnIndex();
        dueDigest(nothing, false, 0);
        CairnIndex one = new CairnIndex();
        one.addLayer(true);
        dueDigest(one, true, 1);
        CairnIndex index = fullOfAll();
        dueDigest(index, true, 4);
        for (int gone = 0; gone < 8; gone++) {
            index.remove(gone);
        }
        dueDigest(index, true, 4, 0, 1, 2, 3, 4, 5, 6, 7);
        // Answers of both signs come up, so it is not cut to a number above 0 anywhere.
        int below = 0;
        for (int x = 0; x < 16; x++) {
            index.move(79, x, x);
            below += index.digest() < 0 ? 1 : 0;
            dueDigest(index, true, 4, 0, 1, 2, 3, 4, 5, 6, 7);
        }
        Checks.holds("some are below 0 and some are not: " + below, below > 0 && below < 16);
    }

    public static void main(String[] args) {
        byMiddlesInX();
        smallerNumberFirstInX();
        byMiddlesInY();
        smallerNumberFirstInY();
        howManySlices();
        oneMoreIfAnyAreLeft();
        smallerAtTheEnd();
        aheadInTheRowInY();
        aheadInTheRowInX();
        nodesByTheirMiddles();
        nearestOfSeveral();
        digestThatWraps();
        Checks.end();
    }
}
