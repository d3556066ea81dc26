import java.util.ArrayList;
import java.util.Arrays;

/** Drawings in layers: a tree of shapes and groups, painted exactly onto a small picture. */
public final class PaintLayers {
    private static final int WIDTH = 64;
    private static final int HEIGHT = 48;
    private static final int PIXELS = WIDTH * HEIGHT;
    private static final int TILE = 8;
    private static final int TILES_ACROSS = WIDTH / TILE;
    private static final int TILES = TILES_ACROSS * (HEIGHT / TILE);

    private static final int MOST_NODES = 40;
    private static final int FARTHEST = 100;
    private static final int LONGEST = 100;
    private static final int MOST_RADIUS = 60;
    private static final int MOST_VALUE = 255;
    private static final int FULL = 8;
    private static final int NONE = -1;

    private static final int GROUP = 0;
    private static final int RECTANGLE = 1;
    private static final int DISC = 2;
    private static final int TRIANGLE = 3;

    private static final long WHOLE_ROW = -1L;

    private static final int LAST_DETAIL = 12;
    private static final int LAST_EXTENT = 4;
    private static final long DIGEST_START = 359;
    private static final long DIGEST_FACTOR = 31;

    private final Node[] nodes = new Node[MOST_NODES];
    private final Node root = new Node(0, null, null);
    private final ArrayList<Node> order = new ArrayList<>();
    private final int[] canvas = new int[PIXELS];
    private final int[] row = new int[WIDTH];
    private int came = 1;
    private int ground = 0;

    public PaintLayers() {
        nodes[0] = root;
        settle();
    }

    // ---- nodes

    public int addGroup(int parent) throws IndexOutOfBoundsException, IllegalStateException {
        Node above = find(parent);
        checkTakesMore(above);
        return append(above, null);
    }

    public int addRectangle(int parent, int left, int top, int width, int height)
            throws IndexOutOfBoundsException, IllegalArgumentException, IllegalStateException {
        Node above = find(parent);
        checkPoint(left, top);
        checkRange(width, 1, LONGEST);
        checkRange(height, 1, LONGEST);
        checkTakesMore(above);
        return append(above, new Rectangle(new Box(left, top, width, height)));
    }

    public int addDisc(int parent, int cx, int cy, int r)
            throws IndexOutOfBoundsException, IllegalArgumentException, IllegalStateException {
        Node above = find(parent);
        checkPoint(cx, cy);
        checkRange(r, 1, MOST_RADIUS);
        checkTakesMore(above);
        return append(above, new Disc(cx, cy, r));
    }

    public int addTriangle(int parent, int ax, int ay, int bx, int by, int cx, int cy)
            throws IndexOutOfBoundsException, IllegalArgumentException, IllegalStateException {
        Node above = find(parent);
        checkPoint(ax, ay);
        checkPoint(bx, by);
        checkPoint(cx, cy);
        checkTakesMore(above);
        Box box = boxRound(Math.min(ax, Math.min(bx, cx)), Math.min(ay, Math.min(by, cy)),
                Math.max(ax, Math.max(bx, cx)), Math.max(ay, Math.max(by, cy)));
        return append(above, new Triangle(box, new Corner(ax, ay), new Corner(bx, by), new Corner(cx, cy)));
    }

    public int remove(int node) throws IndexOutOfBoundsException, IllegalStateException {
        Node top = find(node);
        Node parent = top.parent;
        if (parent == null) {
            throw new IllegalStateException("the root stays");
        }
        int gone = 0;
        for (int i = 0; i < MOST_NODES; i++) {
            if (isWithin(nodes[i], top)) {
                nodes[i] = null;
                gone++;
            }
        }
        takeOut(parent, top);
        settle();
        return gone;
    }

    public int move(int node, int parent, int place) throws IndexOutOfBoundsException, IllegalStateException {
        Node moved = find(node);
        Node above = find(parent);
        Node before = moved.parent;
        if (before == null) {
            throw new IllegalStateException("the root stays");
        }
        if (above.shape != null || isWithin(above, moved)) {
            throw new IllegalStateException("no parent for this node");
        }
        int places = above == before ? above.children.size() - 1 : above.children.size();
        if (place < 0 || place > places) {
            throw new IllegalStateException("no such place");
        }
        int placeBefore = takeOut(before, moved);
        above.children.add(place, moved);
        moved.parent = above;
        settle();
        return placeBefore;
    }

    public int node(int node, int what) throws IndexOutOfBoundsException {
        Node asked = find(node);
        checkIndex(what, LAST_DETAIL + 1);
        return detail(asked, what);
    }

    public int child(int node, int index) throws IndexOutOfBoundsException {
        Node asked = find(node);
        checkIndex(index, asked.children.size());
        return asked.children.get(index).number;
    }

    public int count() {
        return order.size();
    }

    // ---- paints

    public int place(int node, int dx, int dy) throws IndexOutOfBoundsException, IllegalArgumentException {
        Node placed = find(node);
        checkPoint(dx, dy);
        int before = placed.dx;
        placed.dx = dx;
        placed.dy = dy;
        settle();
        return before;
    }

    public int setFill(int node, int fill) throws IndexOutOfBoundsException, IllegalArgumentException {
        Node filled = find(node);
        checkRange(fill, NONE, MOST_VALUE);
        int before = filled.ownFill;
        filled.ownFill = fill;
        settle();
        return before;
    }

    public int setOpacity(int node, int opacity, boolean isHidden)
            throws IndexOutOfBoundsException, IllegalArgumentException {
        Node set = find(node);
        checkRange(opacity, 0, FULL);
        int before = set.opacity;
        set.opacity = opacity;
        set.isHidden = isHidden;
        settle();
        return before;
    }

    public boolean setClip(int node, int left, int top, int width, int height)
            throws IndexOutOfBoundsException, IllegalArgumentException {
        Node clipped = find(node);
        checkPoint(left, top);
        checkRange(width, 0, LONGEST);
        checkRange(height, 0, LONGEST);
        boolean hadClip = clipped.clip != null;
        clipped.clip = width == 0 ? null : new Box(left, top, width, height);
        return hadClip;
    }

    public boolean setMask(int node, boolean isMasked) throws IndexOutOfBoundsException, IllegalStateException {
        Node group = find(node);
        if (group.shape != null) {
            throw new IllegalStateException("no group");
        }
        boolean wasMasked = group.isMasked;
        group.isMasked = isMasked;
        return wasMasked;
    }

    public int setGround(int value) throws IllegalArgumentException {
        checkRange(value, 0, MOST_VALUE);
        int before = ground;
        ground = value;
        return before;
    }

    // ---- pixels

    public int value(int x, int y) throws IndexOutOfBoundsException {
        checkPixel(x, y);
        mixRow(y);
        return row[x];
    }

    public int hit(int x, int y) throws IndexOutOfBoundsException {
        checkPixel(x, y);
        scanRow(y);
        for (int i = order.size() - 1; i >= 0; i--) {
            Node at = order.get(i);
            if (at.shape != null && at.strength > 0 && hasBit(at.shown, x)) {
                return at.number;
            }
        }
        return NONE;
    }

    public boolean shows(int node, int x, int y) throws IndexOutOfBoundsException {
        Node asked = find(node);
        checkPixel(x, y);
        scanRow(y);
        return hasBit(asked.shown, x);
    }

    public int extent(int node, int what) throws IndexOutOfBoundsException {
        Node asked = find(node);
        checkIndex(what, LAST_EXTENT + 1);
        int pixels = 0;
        long columns = 0;
        int least = NONE;
        int greatest = NONE;
        for (int y = 0; y < HEIGHT; y++) {
            scanRow(y);
            if (asked.shown != 0) {
                pixels += Long.bitCount(asked.shown);
                columns |= asked.shown;
                least = least == NONE ? y : least;
                greatest = y;
            }
        }
        switch (what) {
            case 0: return pixels;
            case 1: return lowestBit(columns);
            case 2: return highestBit(columns);
            case 3: return least;
            default: return greatest;
        }
    }

    // ---- painting

    public int changed(int tile) throws IndexOutOfBoundsException {
        checkIndex(tile, TILES);
        int left = tile % TILES_ACROSS * TILE;
        int top = tile / TILES_ACROSS * TILE;
        int differing = 0;
        for (int y = top; y < top + TILE; y++) {
            mixRow(y);
            for (int x = left; x < left + TILE; x++) {
                if (row[x] != canvas[y * WIDTH + x]) {
                    differing++;
                }
            }
        }
        return differing;
    }

    public int paint() {
        long tiles = 0;
        for (int y = 0; y < HEIGHT; y++) {
            tiles |= changedTiles(y);
            // The pixels of the other tiles have the values that they had: the whole row can be taken over.
            for (int x = 0; x < WIDTH; x++) {
                canvas[y * WIDTH + x] = row[x];
            }
        }
        return Long.bitCount(tiles);
    }

    public int painted(int x, int y) throws IndexOutOfBoundsException {
        checkPixel(x, y);
        return canvas[y * WIDTH + x];
    }

    public double mean() {
        int sum = 0;
        for (int i = 0; i < PIXELS; i++) {
            sum += canvas[i];
        }
        return (double) sum / PIXELS;
    }

    public long digest() {
        long d = DIGEST_START;
        d = d * DIGEST_FACTOR + order.size();
        d = d * DIGEST_FACTOR + ground;
        for (int i = 0; i < MOST_NODES; i++) {
            Node at = nodes[i];
            if (at != null) {
                d = d * DIGEST_FACTOR + at.number;
                for (int what = 0; what <= LAST_DETAIL; what++) {
                    d = d * DIGEST_FACTOR + detail(at, what);
                }
            }
        }
        for (int i = 0; i < PIXELS; i++) {
            d = d * DIGEST_FACTOR + canvas[i];
        }
        long tiles = 0;
        for (int y = 0; y < HEIGHT; y++) {
            tiles |= changedTiles(y);
        }
        return d * DIGEST_FACTOR + Long.bitCount(tiles);
    }

    // ---- what is refused

    private Node find(int number) {
        checkIndex(number, MOST_NODES);
        Node found = nodes[number];
        if (found == null) {
            throw new IndexOutOfBoundsException("no such node");
        }
        return found;
    }

    private static void checkIndex(int index, int end) {
        if (index < 0 || index >= end) {
            throw new IndexOutOfBoundsException("no such number");
        }
    }

    private static void checkPixel(int x, int y) {
        if (x < 0 || x >= WIDTH || y < 0 || y >= HEIGHT) {
            throw new IndexOutOfBoundsException("no such pixel");
        }
    }

    private static void checkRange(int number, int least, int greatest) {
        if (number < least || number > greatest) {
            throw new IllegalArgumentException("out of its range");
        }
    }

    private static void checkPoint(int x, int y) {
        checkRange(x, -FARTHEST, FARTHEST);
        checkRange(y, -FARTHEST, FARTHEST);
    }

    private void checkTakesMore(Node parent) {
        if (parent.shape != null || came >= MOST_NODES) {
            throw new IllegalStateException("no group, or too many nodes");
        }
    }

    // ---- the tree

    private int append(Node parent, Shape shape) {
        Node added = new Node(came, shape, parent);
        if (came < MOST_NODES) {
            nodes[came] = added;
        }
        came++;
        parent.children.add(added);
        settle();
        return added.number;
    }

    private static int takeOut(Node parent, Node child) {
        int at = placeAmong(parent.children, child);
        if (at < parent.children.size()) {
            parent.children.remove(at);
        }
        return at;
    }

    private static int placeAmong(ArrayList<Node> children, Node child) {
        for (int i = 0; i < children.size(); i++) {
            if (children.get(i) == child) {
                return i;
            }
        }
        return children.size();
    }

    private static boolean isWithin(Node node, Node top) {
        for (Node at = node; at != null; at = at.parent) {
            if (at == top) {
                return true;
            }
        }
        return false;
    }

    private static Node maskOf(Node group) {
        if (group == null || !group.isMasked || group.children.isEmpty()) {
            return null;
        }
        return group.children.get(0);
    }

    private static int detail(Node node, int what) {
        switch (what) {
            case 0: return node.shape == null ? GROUP : node.shape.sort;
            case 1: return node.parent == null ? NONE : node.parent.number;
            case 2: return node.parent == null ? 0 : placeAmong(node.parent.children, node);
            case 3: return node.children.size();
            case 4: return node.dx;
            case 5: return node.dy;
            case 6: return node.ownFill;
            case 7: return node.fill;
            case 8: return node.opacity;
            case 9: return node.strength;
            case 10: return node.hiding;
            case 11: return node.clip == null ? 0 : 1;
            default: return node.isMasked ? 1 : 0;
        }
    }

    /** Puts the nodes in their painting order again, and hands down what each has from above. */
    private void settle() {
        order.clear();
        order.add(root);
        for (int i = 0; i < order.size() && i < MOST_NODES; i++) {
            Node at = order.get(i);
            at.inherit();
            for (int k = 0; k < at.children.size(); k++) {
                order.add(i + 1 + k, at.children.get(k));
            }
        }
    }

    // ---- rows of pixels: bit x of a long stands for the pixel x of the row

    /** Mixes the values of a row's pixels, as the drawing is now. */
    private void mixRow(int y) {
        scanRow(y);
        Arrays.fill(row, ground);
        for (int i = 0; i < order.size(); i++) {
            Node at = order.get(i);
            if (at.shape != null && at.shown != 0) {
                layOn(at.shown, at.fill, at.strength);
            }
        }
    }

    private void layOn(long pixels, int fill, int strength) {
        for (int x = 0; x < WIDTH; x++) {
            if (hasBit(pixels, x)) {
                row[x] = (row[x] * (FULL - strength) + fill * strength) / FULL;
            }
        }
    }

    /** Finds for each node which pixels of a row show it. */
    private void scanRow(int y) {
        for (int i = 0; i < order.size(); i++) {
            Node at = order.get(i);
            at.covered = at.shape == null ? 0 : at.shape.rowBits(y, at.x, at.y);
            at.open = at.clip == null ? WHOLE_ROW : at.clip.rowBits(y, at.x, at.y);
        }
        // A group lies before all below it: backwards, each is whole before its parent takes it in.
        for (int i = order.size() - 1; i >= 0; i--) {
            Node at = order.get(i);
            if (at.parent != null) {
                at.parent.covered |= at.covered;
            }
        }
        handDownOpen();
        for (int i = order.size() - 1; i >= 0; i--) {
            Node at = order.get(i);
            if (at.parent != null) {
                at.parent.shown |= at.shown;
            }
        }
    }

    /** Goes from the root down, so that each node finds what its parent lets through. */
    private void handDownOpen() {
        for (int i = 0; i < order.size(); i++) {
            Node at = order.get(i);
            if (at.isHidden || maskOf(at.parent) == at) {
                at.open = 0;
            }
            if (at.parent != null) {
                at.open &= at.parent.open;
            }
            at.shown = at.shape == null ? 0 : at.open & at.covered;
            Node mask = maskOf(at);
            if (mask != null) {
                at.open &= mask.covered;
            }
        }
    }

    /** Mixes a row: bit k of the answer tells whether one of its pixels in tile k has changed. */
    private long changedTiles(int y) {
        mixRow(y);
        long tiles = 0;
        for (int x = 0; x < WIDTH; x++) {
            if (row[x] != canvas[y * WIDTH + x]) {
                tiles |= 1L << (y / TILE * TILES_ACROSS + x / TILE);
            }
        }
        return tiles;
    }

    private static boolean hasBit(long bits, int x) {
        return (bits >>> x & 1) != 0;
    }

    private static int lowestBit(long bits) {
        for (int x = 0; x < WIDTH; x++) {
            if (hasBit(bits, x)) {
                return x;
            }
        }
        return NONE;
    }

    private static int highestBit(long bits) {
        for (int x = WIDTH - 1; x >= 0; x--) {
            if (hasBit(bits, x)) {
                return x;
            }
        }
        return NONE;
    }

    /** The bits from one on, to another one without it, as far as they lie in the picture. */
    private static long spanBits(int from, int to) {
        int first = Math.max(from, 0);
        int end = Math.min(to, WIDTH);
        if (first >= end) {
            return 0;
        }
        // Java takes a shift by 64 as one by 0, so that the end is reached by a shift to the right.
        return WHOLE_ROW << first & WHOLE_ROW >>> (WIDTH - end);
    }

    /** The pixels whose middles lie between two corners: no middle lies on a corner's line. */
    private static Box boxRound(int left, int top, int right, int bottom) {
        return new Box(left, top, right - left, bottom - top);
    }

    /** A place in the tree: a group, if it has no shape. */
    private static final class Node {
        final int number;
        final Shape shape;
        final ArrayList<Node> children = new ArrayList<>();
        Node parent;
        int dx = 0;
        int dy = 0;
        int ownFill = NONE;
        int opacity = FULL;
        boolean isHidden = false;
        boolean isMasked = false;
        Box clip = null;

        // What it has together with the groups above it: inherit() sets this before anything asks for it.
        int x;
        int y;
        int fill;
        int strength;
        int hiding;

        // In the row that was scanned last: the pixels in it, those let through below it, those that show it.
        long covered;
        long open;
        long shown;

        Node(int number, Shape shape, Node parent) {
            this.number = number;
            this.shape = shape;
            this.parent = parent;
        }

        void inherit() {
            Node above = parent;
            x = above == null ? dx : above.x + dx;
            y = above == null ? dy : above.y + dy;
            // The strength is cut at each node, from the root down, so that it can't be had from below.
            strength = (above == null ? FULL : above.strength) * opacity / FULL;
            int fillAbove = above == null ? MOST_VALUE : above.fill;
            fill = ownFill == NONE ? fillAbove : ownFill;
            int hidingAbove = above == null || above.hiding == 0 ? 0 : 2;
            hiding = isHidden ? 1 : hidingAbove;
        }
    }

    /** A rectangle of pixels. */
    private static final class Box {
        final int left;
        final int top;
        final int right;
        final int bottom;

        Box(int left, int top, int width, int height) {
            this.left = left;
            this.top = top;
            this.right = left + width;
            this.bottom = top + height;
        }

        boolean hasRow(int y) {
            return y >= top && y < bottom;
        }

        long rowBits(int y, int dx, int dy) {
            return hasRow(y - dy) ? spanBits(left + dx, right + dx) : 0;
        }
    }

    /** What a pixel is in or not, before it is moved by an offset. */
    private abstract static class Shape {
        final int sort;
        final Box box;

        Shape(int sort, Box box) {
            this.sort = sort;
            this.box = box;
        }

        /** Whether a pixel of its box is in it (of no other pixel it is asked). */
        abstract boolean holds(int x, int y);

        /** Its pixels in a row of the picture: no shape has a gap in a row, so that its ends tell all. */
        long rowBits(int y, int dx, int dy) {
            if (!box.hasRow(y - dy)) {
                return 0;
            }
            int from = Math.max(box.left + dx, 0);
            int to = Math.min(box.right + dx, WIDTH);
            while (from < to && !holds(from - dx, y - dy)) {
                from++;
            }
            while (from < to && !holds(to - 1 - dx, y - dy)) {
                to--;
            }
            return spanBits(from, to);
        }
    }

    private static final class Rectangle extends Shape {
        Rectangle(Box box) {
            super(RECTANGLE, box);
        }

        boolean holds(int x, int y) {
            return true;
        }
    }

    private static final class Disc extends Shape {
        final int cx;
        final int cy;
        final int r;

        Disc(int cx, int cy, int r) {
            super(DISC, boxRound(cx - r, cy - r, cx + r, cy + r));
            this.cx = cx;
            this.cy = cy;
            this.r = r;
        }

        boolean holds(int x, int y) {
            int across = 2 * x + 1 - 2 * cx;
            int down = 2 * y + 1 - 2 * cy;
            return across * across + down * down <= 4 * r * r;
        }
    }

    private static final class Corner {
        final int x;
        final int y;

        Corner(int x, int y) {
            this.x = x;
            this.y = y;
        }
    }

    private static final class Triangle extends Shape {
        final Corner a;
        final Corner b;
        final Corner c;

        Triangle(Box box, Corner a, Corner b, Corner c) {
            super(TRIANGLE, box);
            this.a = a;
            this.b = b;
            this.c = c;
        }

        boolean holds(int x, int y) {
            int px = 2 * x + 1;
            int py = 2 * y + 1;
            int ab = sideOf(a, b, px, py);
            int bc = sideOf(b, c, px, py);
            int ca = sideOf(c, a, px, py);
            boolean isOnOneSide = ab >= 0 && bc >= 0 && ca >= 0 || ab <= 0 && bc <= 0 && ca <= 0;
            return isOnOneSide && (ab != 0 || bc != 0 || ca != 0);
        }

        /** On which side of the line between two doubled corners a point lies. */
        static int sideOf(Corner from, Corner to, int px, int py) {
            int ax = 2 * from.x;
            int ay = 2 * from.y;
            return (2 * to.x - ax) * (py - ay) - (2 * to.y - ay) * (px - ax);
        }
    }
}
