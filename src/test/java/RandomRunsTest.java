/** Runs of up to 512 calls with well-mixed arguments, each answered by CairnIndex and by PlainIndex. */
public final class RandomRunsTest {
    private static long seed;

    private static int upTo(int bound) {
        seed = seed * 6364136223846793005L + 1442695040888963407L;
        return (int) ((seed >>> 33) % bound);
    }

    /** Mostly 0 to most, now and then just outside or far off. */
    private static int mixed(int most) {
        int kind = upTo(40);
        if (kind == 0) {
            return -1;
        }
        if (kind == 1) {
            return most + 1;
        }
        if (kind == 2) {
            return upTo(2) == 0 ? Integer.MIN_VALUE : Integer.MAX_VALUE;
        }
        if (kind < 6) {
            return most;
        }
        return kind < 9 ? 0 : upTo(most + 1);
    }

    /** Places are often close together, so that trees get deep and things meet. */
    private static int place(int spread) {
        int kind = upTo(30);
        if (kind == 0) {
            return mixed(1023);
        }
        if (kind == 1) {
            return 512 - upTo(2);
        }
        return kind < 18 ? upTo(spread) : upTo(1024);
    }

    private static int farNumber() {
        int[] some = {0, 1, 2, 25, 100, 900, 2500, 10000, 90000, 3000000, 3000001, -1};
        int kind = upTo(some.length + 6);
        return kind < some.length ? some[kind] : upTo(20000);
    }

    private static String answer(Checks.Call call) {
        try {
            return Double.toString(call.answer());
        } catch (IndexOutOfBoundsException | IllegalArgumentException | IllegalStateException e) {
            return e.getClass().getSimpleName();
        }
    }

    private static void both(String name, Checks.Call tested, Checks.Call plain) {
        String want = answer(plain);
        String got = answer(tested);
        Checks.holds(name + " is " + want + ", not " + got, want.equals(got));
    }

    private static void build(CairnIndex t, PlainIndex p, int call, int spread) {
        int layer = mixed(3);
        int thing = upTo(6) == 0 ? mixed(79) : upTo(Math.max(1, p.things()));
        int x = place(spread);
        int y = place(spread);
        int a = mixed(200) % (upTo(2) == 0 ? 3 : 201);
        int b = mixed(200) % (upTo(2) == 0 ? 3 : 201);
        int tag = mixed(9);
        int size = mixed(8);
        int count = upTo(3) == 0 ? mixed(30) : 1 + upTo(5);
        boolean isPoints = upTo(2) == 0;
        switch (call) {
            case 0:
                both("addLayer", () -> t.addLayer(isPoints), () -> p.addLayer(isPoints));
                break;
            case 1:
                both("setSize", () -> t.setSize(layer, size), () -> p.setSize(layer, size));
                break;
            case 2:
            case 3:
                both("addPoint", () -> t.addPoint(layer, x, y, tag), () -> p.addPoint(layer, x, y, tag));
                break;
            case 4:
            case 5:
            case 6:
                both("addBox", () -> t.addBox(layer, x, y, a, b, tag), () -> p.addBox(layer, x, y, a, b, tag));
                break;
            case 7:
                both("addRow", () -> t.addRow(layer, x, y, a, b, count), () -> p.addRow(layer, x, y, a, b, count));
                break;
            case 8:
            case 9:
                both("move", () -> t.move(thing, x, y), () -> p.move(thing, x, y));
                break;
            case 10:
                both("remove", () -> t.remove(thing), () -> p.remove(thing));
                break;
            case 11:
                both("pack", () -> t.pack(layer), () -> p.pack(layer));
                break;
            case 12:
                both("corner", () -> t.corner(x, y), () -> p.corner(x, y));
                break;
            default:
                if (upTo(4) == 0) {
                    both("clear", () -> t.clear(), () -> p.clear());
                } else {
                    int corner = mixed(1023);
                    both("corner", () -> t.corner(corner, y), () -> p.corner(corner, y));
                }
        }
    }

    private static void askThings(CairnIndex t, PlainIndex p) {
        both("things", () -> t.things(), () -> p.things());
        both("area", () -> t.area(), () -> p.area());
        int thing = upTo(6) == 0 ? mixed(79) : upTo(Math.max(1, p.things()));
        int what = mixed(6);
        both("of", () -> t.of(thing, what), () -> p.of(thing, what));
    }

    private static void askTrees(CairnIndex t, PlainIndex p, int spread) {
        int layer = mixed(3);
        int x = place(spread);
        int y = place(spread);
        int what = mixed(4);
        int level = mixed(3);
        int node = mixed(5);
        both("size", () -> t.size(layer), () -> p.size(layer));
        both("nodes", () -> t.nodes(layer), () -> p.nodes(layer));
        both("depth", () -> t.depth(layer), () -> p.depth(layer));
        both("leaf", () -> t.leaf(layer, x, y, what), () -> p.leaf(layer, x, y, what));
        both("level", () -> t.level(layer, level), () -> p.level(layer, level));
        both("node", () -> t.node(layer, level, node, what), () -> p.node(layer, level, node, what));
        both("fullness", () -> t.fullness(layer), () -> p.fullness(layer));
        int size = mixed(8);
        both("nodesWith", () -> t.nodesWith(layer, size), () -> p.nodesWith(layer, size));
    }

    private static void askPlaces(CairnIndex t, PlainIndex p, int spread) {
        int layer = mixed(3);
        int x = place(spread);
        int y = place(spread);
        int w = upTo(2) == 0 ? mixed(1023) : upTo(40);
        int h = upTo(2) == 0 ? mixed(1023) : upTo(40);
        int k = upTo(4) == 0 ? mixed(80) : 1 + upTo(12);
        both("inBox", () -> t.inBox(layer, x, y, w, h), () -> p.inBox(layer, x, y, w, h));
        both("visited", () -> t.visited(layer, x, y, w, h), () -> p.visited(layer, x, y, w, h));
        both("visitedPacked", () -> t.visitedPacked(layer, x, y, w, h), () -> p.visitedPacked(layer, x, y, w, h));
        both("nearest", () -> t.nearest(layer, x, y, k), () -> p.nearest(layer, x, y, k));
        both("far", () -> t.far(layer, x, y, k), () -> p.far(layer, x, y, k));
        both("visitedFor", () -> t.visitedFor(layer, x, y, k), () -> p.visitedFor(layer, x, y, k));
        int tag = upTo(2) == 0 ? -1 : mixed(9);
        both("inFence", () -> t.inFence(layer, tag), () -> p.inFence(layer, tag));
    }

    private static void askNearness(CairnIndex t, PlainIndex p) {
        int one = mixed(3);
        int other = mixed(3);
        int far = farNumber();
        both("pairs", () -> t.pairs(one, other, far), () -> p.pairs(one, other, far));
        both("visitedPairs", () -> t.visitedPairs(one, other, far), () -> p.visitedPairs(one, other, far));
        both("clusters", () -> t.clusters(one, far), () -> p.clusters(one, far));
        both("greatest", () -> t.greatest(one, far), () -> p.greatest(one, far));
    }

    private static void run(int number) {
        seed = number * 7919L + 17;
        int[] spreads = {4, 30, 200, 1024};
        int spread = spreads[number % spreads.length];
        CairnIndex tested = new CairnIndex();
        PlainIndex plain = new PlainIndex();
        int early = upTo(5);
        for (int i = 0; i < early; i++) {
            build(tested, plain, 0, spread);
        }
        for (int step = 0; step < 45; step++) {
            build(tested, plain, upTo(14), spread);
            build(tested, plain, upTo(14), spread);
            int kind = upTo(4);
            if (kind == 0) {
                askThings(tested, plain);
            } else if (kind == 1) {
                askTrees(tested, plain, spread);
            } else if (kind == 2) {
                askPlaces(tested, plain, spread);
            } else {
                askNearness(tested, plain);
            }
            Checks.due("run " + number + " step " + step + ": digest", plain.digest(), tested.digest());
        }
    }

    public static void main(String[] args) {
        for (int number = 0; number < 400; number++) {
            run(number);
        }
        Checks.end();
    }
}
