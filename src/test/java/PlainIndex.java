import java.util.ArrayList;
import java.util.Comparator;
import java.util.List;

/**
 * The document once more, written slowly and word by word, with another way of holding things:
 * random runs are answered by it and by CairnIndex. Fences are asked in whole fractions, trees
 * are gone through from the root, and nothing is kept but what the calls brought.
 */
final class PlainIndex {
    static final class Box {
        int x;
        int y;
        int w;
        int h;

        Box(int x, int y, int w, int h) {
            this.x = x;
            this.y = y;
            this.w = w;
            this.h = h;
        }

        int far(Box o) {
            int dx = 0;
            if (x > o.x + o.w) {
                dx = x - (o.x + o.w);
            } else if (o.x > x + w) {
                dx = o.x - (x + w);
            }
            int dy = 0;
            if (y > o.y + o.h) {
                dy = y - (o.y + o.h);
            } else if (o.y > y + h) {
                dy = o.y - (y + h);
            }
            return dx * dx + dy * dy;
        }
    }

    static final class Thing {
        int number;
        int layer;
        Box box;
        int tag;
        boolean gone;
        boolean loose;
    }

    static final class Node {
        Box box;
        int rank;
        List<Node> below = new ArrayList<>();
        List<Thing> held = new ArrayList<>();

        int depth() {
            int most = 0;
            for (Node node : below) {
                most = Math.max(most, node.depth());
            }
            return most + 1;
        }

        void collect(List<Node> all) {
            all.add(this);
            for (Node node : below) {
                node.collect(all);
            }
        }

        int visit(Box box, int far) {
            if (this.box.far(box) > far) {
                return 0;
            }
            int count = 1;
            for (Node node : below) {
                count += node.visit(box, far);
            }
            return count;
        }
    }

    static final class Layer {
        boolean points;
        int size = 4;
        List<List<Node>> levels = new ArrayList<>();
    }

    final List<Layer> layers = new ArrayList<>();
    final List<Thing> all = new ArrayList<>();
    final List<int[]> fence = new ArrayList<>();

    private Layer layer(int n) {
        if (n < 0 || n >= layers.size()) {
            throw new IndexOutOfBoundsException();
        }
        return layers.get(n);
    }

    private Thing thing(int n) {
        if (n < 0 || n >= all.size() || all.get(n).gone) {
            throw new IndexOutOfBoundsException();
        }
        return all.get(n);
    }

    private static void need(boolean so) {
        if (!so) {
            throw new IllegalArgumentException();
        }
    }

    private static boolean in(int v, int from, int to) {
        return v >= from && v <= to;
    }

    private List<Thing> members(int layer) {
        List<Thing> found = new ArrayList<>();
        for (Thing t : all) {
            if (!t.gone && t.layer == layer) {
                found.add(t);
            }
        }
        return found;
    }

    // ---- trees

    private static Node square(int x, int y, int side, List<Thing> points, int cap) {
        Node node = new Node();
        node.box = new Box(x, y, side - 1, side - 1);
        if (points.size() <= cap || side == 1) {
            node.held = points;
            return node;
        }
        int half = side / 2;
        for (int q = 0; q < 4; q++) {
            int left = x + (q == 1 || q == 3 ? half : 0);
            int low = y + (q >= 2 ? half : 0);
            List<Thing> some = new ArrayList<>();
            for (Thing t : points) {
                if (t.box.x >= left && t.box.x < left + half && t.box.y >= low && t.box.y < low + half) {
                    some.add(t);
                }
            }
            node.below.add(square(left, low, half, some, cap));
        }
        return node;
    }

    private static Box around(List<Box> boxes) {
        int left = Integer.MAX_VALUE;
        int low = Integer.MAX_VALUE;
        int right = Integer.MIN_VALUE;
        int high = Integer.MIN_VALUE;
        for (Box b : boxes) {
            left = Math.min(left, b.x);
            low = Math.min(low, b.y);
            right = Math.max(right, b.x + b.w);
            high = Math.max(high, b.y + b.h);
        }
        return new Box(left, low, right - left, high - low);
    }

    /** Cuts nodes (or things, as nodes of their own) into groups, in the order of the document. */
    private static List<List<Node>> cut(List<Node> row, int fan) {
        for (int i = 0; i < row.size(); i++) {
            row.get(i).rank = i;
        }
        int p = row.size() / fan;
        if (row.size() % fan != 0) {
            p++;
        }
        int s = 1;
        while (s * s < p) {
            s++;
        }
        Comparator<Node> byX = Comparator.comparingInt((Node n) -> 2 * n.box.x + n.box.w).thenComparingInt(n -> n.rank);
        Comparator<Node> byY = Comparator.comparingInt((Node n) -> 2 * n.box.y + n.box.h).thenComparingInt(n -> n.rank);
        List<Node> sorted = new ArrayList<>(row);
        sorted.sort(byX);
        List<List<Node>> groups = new ArrayList<>();
        for (int i = 0; i < sorted.size(); i += s * fan) {
            List<Node> slice = new ArrayList<>(sorted.subList(i, Math.min(sorted.size(), i + s * fan)));
            slice.sort(byY);
            for (int j = 0; j < slice.size(); j += fan) {
                groups.add(new ArrayList<>(slice.subList(j, Math.min(slice.size(), j + fan))));
            }
        }
        return groups;
    }

    private static List<List<Node>> packed(List<Thing> things, int fan) {
        List<List<Node>> levels = new ArrayList<>();
        if (things.isEmpty()) {
            return levels;
        }
        List<Node> row = new ArrayList<>();
        for (Thing t : things) {
            Node single = new Node();
            single.box = new Box(t.box.x, t.box.y, t.box.w, t.box.h);
            single.held.add(t);
            row.add(single);
        }
        boolean leaves = true;
        while (leaves || row.size() > 1) {
            List<Node> next = new ArrayList<>();
            for (List<Node> group : cut(row, fan)) {
                Node node = new Node();
                List<Box> boxes = new ArrayList<>();
                for (Node n : group) {
                    boxes.add(n.box);
                    if (leaves) {
                        node.held.add(n.held.get(0));
                    } else {
                        node.below.add(n);
                    }
                }
                node.box = around(boxes);
                next.add(node);
            }
            levels.add(next);
            row = next;
            leaves = false;
        }
        return levels;
    }

    private static Node rootOf(List<List<Node>> levels) {
        return levels.isEmpty() ? null : levels.get(levels.size() - 1).get(0);
    }

    private Node root(int layer) {
        Layer l = layers.get(layer);
        return l.points ? square(0, 0, 1024, members(layer), l.size) : rootOf(l.levels);
    }

    private static List<Node> allNodes(Node root) {
        List<Node> found = new ArrayList<>();
        if (root != null) {
            root.collect(found);
        }
        return found;
    }

    // ---- calls

    int addLayer(boolean points) {
        if (layers.size() >= 4) {
            throw new IllegalStateException();
        }
        Layer l = new Layer();
        l.points = points;
        layers.add(l);
        return layers.size() - 1;
    }

    int setSize(int layer, int size) {
        Layer l = layer(layer);
        need(in(size, l.points ? 1 : 2, 8));
        int before = l.size;
        l.size = size;
        return before;
    }

    private int add(int layer, int x, int y, int w, int h, int tag) {
        Thing t = new Thing();
        t.number = all.size();
        t.layer = layer;
        t.box = new Box(x, y, w, h);
        t.tag = tag;
        t.loose = !layers.get(layer).points;
        all.add(t);
        return t.number;
    }

    int addPoint(int layer, int x, int y, int tag) {
        Layer l = layer(layer);
        need(l.points && in(x, 0, 1023) && in(y, 0, 1023) && in(tag, 0, 9));
        if (all.size() == 80) {
            throw new IllegalStateException();
        }
        return add(layer, x, y, 0, 0, tag);
    }

    int addBox(int layer, int x, int y, int w, int h, int tag) {
        Layer l = layer(layer);
        need(!l.points && in(x, 0, 1023) && in(y, 0, 1023) && in(w, 0, 200) && in(h, 0, 200));
        need(x + w <= 1023 && y + h <= 1023 && in(tag, 0, 9));
        if (all.size() == 80) {
            throw new IllegalStateException();
        }
        return add(layer, x, y, w, h, tag);
    }

    int addRow(int layer, int x, int y, int stepX, int stepY, int count) {
        Layer l = layer(layer);
        need(l.points && in(x, 0, 1023) && in(y, 0, 1023) && in(stepX, 0, 1023) && in(stepY, 0, 1023) && in(count, 1, 30));
        if (all.size() + count > 80) {
            throw new IllegalStateException();
        }
        int first = all.size();
        for (int k = 0; k < count; k++) {
            add(layer, x, y, 0, 0, k % 10);
            x = (x + stepX) % 1024;
            y = (y + stepY) % 1024;
        }
        return first;
    }

    private void leave(Thing t) {
        for (List<Node> level : layers.get(t.layer).levels) {
            for (Node node : level) {
                node.held.remove(t);
            }
        }
    }

    int move(int thing, int x, int y) {
        Thing t = thing(thing);
        need(in(x, 0, 1023) && in(y, 0, 1023) && x + t.box.w <= 1023 && y + t.box.h <= 1023);
        Box before = t.box;
        t.box = new Box(x, y, before.w, before.h);
        t.loose = !layers.get(t.layer).points;
        leave(t);
        return t.box.far(before);
    }

    int remove(int thing) {
        Thing t = thing(thing);
        t.gone = true;
        leave(t);
        return members(t.layer).size();
    }

    int pack(int layer) {
        Layer l = layer(layer);
        need(!l.points);
        l.levels = packed(members(layer), l.size);
        for (Thing t : members(layer)) {
            t.loose = false;
        }
        return nodes(layer);
    }

    int things() {
        return all.size();
    }

    int size(int layer) {
        layer(layer);
        return members(layer).size();
    }

    int of(int thing, int what) {
        Thing t = thing(thing);
        need(in(what, 0, 6));
        return new int[] {t.layer, t.box.x, t.box.y, t.box.w, t.box.h, t.tag, t.loose ? 1 : 0}[what];
    }

    int nodes(int layer) {
        layer(layer);
        return allNodes(root(layer)).size();
    }

    int depth(int layer) {
        layer(layer);
        Node root = root(layer);
        return root == null ? 0 : root.depth();
    }

    int leaf(int layer, int x, int y, int what) {
        Layer l = layer(layer);
        need(l.points && in(x, 0, 1023) && in(y, 0, 1023) && in(what, 0, 4));
        Node node = root(layer);
        int above = 0;
        while (!node.below.isEmpty()) {
            for (Node n : node.below) {
                if (n.box.far(new Box(x, y, 0, 0)) == 0) {
                    node = n;
                    break;
                }
            }
            above++;
        }
        return new int[] {node.box.x, node.box.y, node.box.w + 1, node.held.size(), above}[what];
    }

    int level(int layer, int level) {
        Layer l = layer(layer);
        need(!l.points && level >= 0);
        return level < l.levels.size() ? l.levels.get(level).size() : 0;
    }

    int node(int layer, int level, int node, int what) {
        Layer l = layer(layer);
        need(!l.points);
        if (level < 0 || level >= l.levels.size() || node < 0 || node >= l.levels.get(level).size()) {
            throw new IndexOutOfBoundsException();
        }
        need(in(what, 0, 4));
        Node n = l.levels.get(level).get(node);
        int count = level == 0 ? n.held.size() : n.below.size();
        return new int[] {n.box.x, n.box.y, n.box.w, n.box.h, count}[what];
    }

    private Box asked(int x, int y, int w, int h) {
        need(in(x, 0, 1023) && in(y, 0, 1023) && in(w, 0, 1023) && in(h, 0, 1023));
        return new Box(x, y, w, h);
    }

    int inBox(int layer, int x, int y, int w, int h) {
        layer(layer);
        Box box = asked(x, y, w, h);
        int count = 0;
        for (Thing t : members(layer)) {
            boolean apart = t.box.x > x + w || x > t.box.x + t.box.w || t.box.y > y + h || y > t.box.y + t.box.h;
            count += apart ? 0 : 1;
        }
        return count;
    }

    int visited(int layer, int x, int y, int w, int h) {
        layer(layer);
        Box box = asked(x, y, w, h);
        Node root = root(layer);
        return root == null ? 0 : root.visit(box, 0);
    }

    private Thing nearestThing(int layer, int x, int y, int k) {
        layer(layer);
        need(in(x, 0, 1023) && in(y, 0, 1023) && in(k, 1, 80));
        Box at = new Box(x, y, 0, 0);
        List<Thing> row = members(layer);
        row.sort(Comparator.comparingInt((Thing t) -> t.box.far(at)).thenComparingInt(t -> t.number));
        return k <= row.size() ? row.get(k - 1) : null;
    }

    int nearest(int layer, int x, int y, int k) {
        Thing t = nearestThing(layer, x, y, k);
        return t == null ? -1 : t.number;
    }

    int far(int layer, int x, int y, int k) {
        Thing t = nearestThing(layer, x, y, k);
        return t == null ? -1 : t.box.far(new Box(x, y, 0, 0));
    }

    int visitedFor(int layer, int x, int y, int k) {
        Thing t = nearestThing(layer, x, y, k);
        if (t == null) {
            return nodes(layer);
        }
        Box at = new Box(x, y, 0, 0);
        Node root = root(layer);
        return root == null ? 0 : root.visit(at, t.box.far(at));
    }

    int pairs(int one, int other, int far) {
        layer(one);
        layer(other);
        need(in(far, 0, 3000000));
        int count = 0;
        for (Thing a : members(one)) {
            for (Thing b : members(other)) {
                boolean counts = one != other || a.number < b.number;
                count += counts && a.box.far(b.box) <= far ? 1 : 0;
            }
        }
        return count;
    }

    private static int visitPair(Node a, Node b, int far) {
        if (a.box.far(b.box) > far) {
            return 1;
        }
        int count = 1;
        if (!a.below.isEmpty() && !b.below.isEmpty()) {
            for (Node c : a.below) {
                for (Node d : b.below) {
                    count += visitPair(c, d, far);
                }
            }
        } else if (!a.below.isEmpty()) {
            for (Node c : a.below) {
                count += visitPair(c, b, far);
            }
        } else {
            for (Node d : b.below) {
                count += visitPair(a, d, far);
            }
        }
        return count;
    }

    int visitedPairs(int one, int other, int far) {
        layer(one);
        layer(other);
        need(in(far, 0, 3000000));
        Node a = root(one);
        Node b = root(other);
        return a == null || b == null ? 0 : visitPair(a, b, far);
    }

    private List<Integer> clusterSizes(int layer, int far) {
        layer(layer);
        need(in(far, 0, 3000000));
        List<Thing> left = members(layer);
        List<Integer> sizes = new ArrayList<>();
        while (!left.isEmpty()) {
            List<Thing> cluster = new ArrayList<>();
            cluster.add(left.remove(0));
            for (int i = 0; i < cluster.size(); i++) {
                for (Thing t : new ArrayList<>(left)) {
                    if (t.box.far(cluster.get(i).box) <= far) {
                        left.remove(t);
                        cluster.add(t);
                    }
                }
            }
            sizes.add(cluster.size());
        }
        return sizes;
    }

    int clusters(int layer, int far) {
        return clusterSizes(layer, far).size();
    }

    int greatest(int layer, int far) {
        int most = 0;
        for (int size : clusterSizes(layer, far)) {
            most = Math.max(most, size);
        }
        return most;
    }

    int corner(int x, int y) {
        need(in(x, 0, 1023) && in(y, 0, 1023));
        if (fence.size() == 8) {
            throw new IllegalStateException();
        }
        fence.add(new int[] {x, y});
        return fence.size();
    }

    int clear() {
        int before = fence.size();
        fence.clear();
        return before;
    }

    /** px and py are halves; all is told in doubles that hold such numbers exactly, divided only to compare. */
    private boolean fenced(double px, double py) {
        int crossed = 0;
        for (int i = 0; i < fence.size(); i++) {
            double a = fence.get(i)[0];
            double b = fence.get(i)[1];
            double c = fence.get((i + 1) % fence.size())[0];
            double d = fence.get((i + 1) % fence.size())[1];
            boolean onLine = (c - a) * (py - b) == (d - b) * (px - a);
            boolean inside = Math.min(a, c) <= px && px <= Math.max(a, c) && Math.min(b, d) <= py && py <= Math.max(b, d);
            if (onLine && inside) {
                return true;
            }
            if (b > py && d <= py || d > py && b <= py) {
                // x of the edge is a + (py - b) * (c - a) / (d - b): compared with both sides times |d - b|
                double times = Math.abs(d - b);
                double edge = a * times + (py - b) * (c - a) * Math.signum(d - b);
                crossed += edge > px * times ? 1 : 0;
            }
        }
        return crossed % 2 == 1;
    }

    int inFence(int layer, int tag) {
        layer(layer);
        need(in(tag, -1, 9));
        if (fence.size() < 3) {
            throw new IllegalStateException();
        }
        int count = 0;
        for (Thing t : members(layer)) {
            boolean counts = tag == -1 || tag == t.tag;
            count += counts && fenced(t.box.x + t.box.w / 2.0, t.box.y + t.box.h / 2.0) ? 1 : 0;
        }
        return count;
    }

    int area() {
        if (fence.size() < 3) {
            return 0;
        }
        // By trapezes below each edge, where CairnIndex takes triangles from the origin.
        int sum = 0;
        for (int i = 0; i < fence.size(); i++) {
            int[] from = fence.get(i);
            int[] to = fence.get((i + 1) % fence.size());
            sum += (to[0] - from[0]) * (to[1] + from[1]);
        }
        return Math.abs(sum);
    }

    double fullness(int layer) {
        layer(layer);
        int leaves = 0;
        int held = 0;
        for (Node n : allNodes(root(layer))) {
            if (n.below.isEmpty()) {
                leaves++;
                held += n.held.size();
            }
        }
        return leaves == 0 ? 0 : held * 1.0 / leaves;
    }

    int nodesWith(int layer, int size) {
        Layer l = layer(layer);
        need(in(size, l.points ? 1 : 2, 8));
        Node root = l.points ? square(0, 0, 1024, members(layer), size) : rootOf(packed(members(layer), size));
        return allNodes(root).size();
    }

    int visitedPacked(int layer, int x, int y, int w, int h) {
        Layer l = layer(layer);
        need(!l.points);
        Box box = asked(x, y, w, h);
        Node root = rootOf(packed(members(layer), l.size));
        return root == null ? 0 : root.visit(box, 0);
    }

    long digest() {
        List<Long> row = new ArrayList<>();
        row.add((long) things());
        for (Thing t : all) {
            if (!t.gone) {
                row.add((long) t.number);
                for (int what = 0; what <= 6; what++) {
                    row.add((long) of(t.number, what));
                }
            }
        }
        for (int l = 0; l < layers.size(); l++) {
            int[] asked = {size(l), nodes(l), depth(l), inBox(l, 100, 100, 400, 300), visited(l, 100, 100, 400, 300),
                nearest(l, 512, 512, 3), far(l, 512, 512, 3), visitedFor(l, 512, 512, 3),
                clusters(l, 2500), greatest(l, 2500), nodesWith(l, 3)};
            for (int v : asked) {
                row.add((long) v);
            }
        }
        for (int l = 0; l + 1 < layers.size(); l++) {
            row.add((long) visitedPairs(l, l + 1, 900));
        }
        row.add((long) area());
        long d = 58069;
        for (long v : row) {
            d = d * 31 + v;
        }
        return d;
    }
}
