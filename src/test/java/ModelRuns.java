import java.util.ArrayList;
import java.util.List;
import java.util.Random;

/**
 * Long runs of calls, the same in each session, on the class and on a plain model at once. The model
 * follows the document's sentences pixel by pixel and shares no line with the class.
 */
public final class ModelRuns {
    private static final int RUNS = 300;
    private static final int CALLS = 500;
    private static final int[] EDGES = {-101, -100, -1, 0, 1, 7, 8, 9, 39, 40, 47, 48, 60, 61, 63, 64, 100, 101,
        255, 256, Integer.MIN_VALUE, Integer.MAX_VALUE};

    private static final class Item {
        int sort;
        int parent;
        int[] form;
        int dx;
        int dy;
        int fill = -1;
        int opacity = 8;
        boolean hidden;
        boolean masked;
        int[] clip;
        List<Integer> children = new ArrayList<>();
    }

    private static final class Model {
        final List<Item> items = new ArrayList<>();
        final int[][] last = new int[64][48];
        int ground = 0;

        Model() {
            Item root = new Item();
            root.parent = -1;
            items.add(root);
        }

        Item at(int n) {
            if (n < 0 || n >= items.size() || items.get(n) == null) {
                throw new IndexOutOfBoundsException();
            }
            return items.get(n);
        }

        void pixel(int x, int y) {
            if (x < 0 || x > 63 || y < 0 || y > 47) {
                throw new IndexOutOfBoundsException();
            }
        }

        void range(int value, int from, int to) {
            if (value < from || value > to) {
                throw new IllegalArgumentException();
            }
        }

        void index(int value, int from, int to) {
            if (value < from || value > to) {
                throw new IndexOutOfBoundsException();
            }
        }

        long add(int sort, int parent, int... form) {
            at(parent);
            for (int i = 0; i < form.length; i++) {
                boolean isSize = sort == 1 && i >= 2 || sort == 2 && i == 2;
                range(form[i], isSize ? 1 : -100, sort == 2 && i == 2 ? 60 : 100);
            }
            if (at(parent).sort != 0 || items.size() == 40) {
                throw new IllegalStateException();
            }
            Item item = new Item();
            item.sort = sort;
            item.parent = parent;
            item.form = form;
            items.add(item);
            at(parent).children.add(items.size() - 1);
            return items.size() - 1;
        }

        boolean below(int n, int top) {
            return n == top || n > -1 && items.get(n).parent >= 0 && below(items.get(n).parent, top);
        }

        long remove(int n) {
            at(n);
            if (n == 0) {
                throw new IllegalStateException();
            }
            at(at(n).parent).children.remove((Integer) n);
            return take(n);
        }

        int take(int n) {
            int gone = 1;
            for (int c : items.get(n).children) {
                gone += take(c);
            }
            items.set(n, null);
            return gone;
        }

        long move(int n, int parent, int place) {
            at(n);
            at(parent);
            if (n == 0 || at(parent).sort != 0 || below(parent, n)) {
                throw new IllegalStateException();
            }
            List<Integer> to = new ArrayList<>(at(parent).children);
            to.remove((Integer) n);
            if (place < 0 || place > to.size()) {
                throw new IllegalStateException();
            }
            List<Integer> from = at(at(n).parent).children;
            int before = from.indexOf(n);
            from.remove(before);
            at(parent).children.add(place, n);
            at(n).parent = parent;
            return before;
        }

        int fill(int n) {
            return at(n).fill >= 0 ? at(n).fill : n == 0 ? 255 : fill(at(n).parent);
        }

        int strength(int n) {
            return (n == 0 ? 8 : strength(at(n).parent)) * at(n).opacity / 8;
        }

        boolean hiddenAbove(int n) {
            return n != 0 && (at(at(n).parent).hidden || hiddenAbove(at(n).parent));
        }

        int node(int n, int what) {
            at(n);
            index(what, 0, 12);
            Item i = at(n);
            int[] all = {i.sort, i.parent, n == 0 ? 0 : at(i.parent).children.indexOf(n), i.children.size(),
                i.dx, i.dy, i.fill, fill(n), i.opacity, strength(n), i.hidden ? 1 : hiddenAbove(n) ? 2 : 0,
                i.clip == null ? 0 : 1, i.masked ? 1 : 0};
            return all[what];
        }

        int wholeX(int n) {
            return at(n).dx + (n == 0 ? 0 : wholeX(at(n).parent));
        }

        int wholeY(int n) {
            return at(n).dy + (n == 0 ? 0 : wholeY(at(n).parent));
        }

        static int side(int ax, int ay, int bx, int by, int px, int py) {
            return (bx - ax) * (py - ay) - (by - ay) * (px - ax);
        }

        /** In a shape; for a group in one of the shapes anywhere below it. */
        boolean in(int n, int x, int y) {
            Item i = at(n);
            if (i.sort == 0) {
                for (int c : i.children) {
                    if (in(c, x, y)) {
                        return true;
                    }
                }
                return false;
            }
            int u = x - wholeX(n);
            int v = y - wholeY(n);
            int[] f = i.form;
            if (i.sort == 1) {
                return f[0] <= u && u < f[0] + f[2] && f[1] <= v && v < f[1] + f[3];
            }
            if (i.sort == 2) {
                return (2 * u + 1 - 2 * f[0]) * (2 * u + 1 - 2 * f[0])
                        + (2 * v + 1 - 2 * f[1]) * (2 * v + 1 - 2 * f[1]) <= 4 * f[2] * f[2];
            }
            int px = 2 * u + 1;
            int py = 2 * v + 1;
            int one = side(2 * f[0], 2 * f[1], 2 * f[2], 2 * f[3], px, py);
            int two = side(2 * f[2], 2 * f[3], 2 * f[4], 2 * f[5], px, py);
            int three = side(2 * f[4], 2 * f[5], 2 * f[0], 2 * f[1], px, py);
            boolean up = one >= 0 && two >= 0 && three >= 0;
            boolean down = one <= 0 && two <= 0 && three <= 0;
            return (up || down) && !(one == 0 && two == 0 && three == 0);
        }

        boolean clipped(int n, int x, int y) {
            int[] c = at(n).clip;
            if (c == null) {
                return false;
            }
            int u = x - wholeX(n);
            int v = y - wholeY(n);
            return !(c[0] <= u && u < c[0] + c[2] && c[1] <= v && v < c[1] + c[3]);
        }

        boolean showsShape(int shape, int x, int y) {
            if (!in(shape, x, y)) {
                return false;
            }
            for (int n = shape; n >= 0; n = at(n).parent) {
                if (at(n).hidden || clipped(n, x, y)) {
                    return false;
                }
                int p = at(n).parent;
                if (p >= 0 && at(p).masked && (at(p).children.get(0) == n || !in(at(p).children.get(0), x, y))) {
                    return false;
                }
            }
            return true;
        }

        boolean shows(int n, int x, int y) {
            if (at(n).sort != 0) {
                return showsShape(n, x, y);
            }
            for (int c : at(n).children) {
                if (shows(c, x, y)) {
                    return true;
                }
            }
            return false;
        }

        int painting(int n, int x, int y, int value) {
            if (at(n).sort != 0) {
                int s = strength(n);
                return showsShape(n, x, y) ? (value * (8 - s) + fill(n) * s) / 8 : value;
            }
            for (int c : at(n).children) {
                value = painting(c, x, y, value);
            }
            return value;
        }

        int value(int x, int y) {
            return painting(0, x, y, ground);
        }

        int hit(int n, int x, int y) {
            if (at(n).sort != 0) {
                return showsShape(n, x, y) && strength(n) > 0 ? n : -1;
            }
            for (int k = at(n).children.size() - 1; k >= 0; k--) {
                int found = hit(at(n).children.get(k), x, y);
                if (found >= 0) {
                    return found;
                }
            }
            return -1;
        }

        int extent(int n, int what) {
            int count = 0;
            int left = 64;
            int right = -1;
            int top = 48;
            int bottom = -1;
            for (int y = 0; y < 48; y++) {
                for (int x = 0; x < 64; x++) {
                    if (shows(n, x, y)) {
                        count++;
                        left = Math.min(left, x);
                        right = Math.max(right, x);
                        top = Math.min(top, y);
                        bottom = Math.max(bottom, y);
                    }
                }
            }
            int[] all = {count, left == 64 ? -1 : left, right, top == 48 ? -1 : top, bottom};
            return all[what];
        }

        int changed(int tile) {
            int changed = 0;
            for (int y = 0; y < 48; y++) {
                for (int x = 0; x < 64; x++) {
                    if (y / 8 * 8 + x / 8 == tile && value(x, y) != last[x][y]) {
                        changed++;
                    }
                }
            }
            return changed;
        }

        int toPaint() {
            int tiles = 0;
            for (int tile = 0; tile < 48; tile++) {
                tiles += changed(tile) > 0 ? 1 : 0;
            }
            return tiles;
        }

        long paint() {
            int tiles = toPaint();
            for (int y = 0; y < 48; y++) {
                for (int x = 0; x < 64; x++) {
                    last[x][y] = value(x, y);
                }
            }
            return tiles;
        }

        double mean() {
            long sum = 0;
            for (int[] column : last) {
                for (int v : column) {
                    sum += v;
                }
            }
            return sum / 3072.0;
        }

        int count() {
            int count = 0;
            for (Item i : items) {
                count += i == null ? 0 : 1;
            }
            return count;
        }

        long digest() {
            long d = 359;
            d = d * 31 + count();
            d = d * 31 + ground;
            for (int n = 0; n < items.size(); n++) {
                if (items.get(n) != null) {
                    d = d * 31 + n;
                    for (int what = 0; what <= 12; what++) {
                        d = d * 31 + node(n, what);
                    }
                }
            }
            for (int y = 0; y < 48; y++) {
                for (int x = 0; x < 64; x++) {
                    d = d * 31 + last[x][y];
                }
            }
            return d * 31 + toPaint();
        }
    }

    private static Object modelAnswer(Model m, int call, int[] a, boolean flag) {
        try {
            return modelCall(m, call, a, flag);
        } catch (RuntimeException e) {
            return e.getClass().getSimpleName();
        }
    }

    private static Object modelCall(Model m, int call, int[] a, boolean flag) {
        Item i;
        Object before;
        switch (call) {
            case 0: return (int) m.add(0, a[0]);
            case 1: return (int) m.add(1, a[0], a[1], a[2], a[3], a[4]);
            case 2: return (int) m.add(2, a[0], a[1], a[2], a[3]);
            case 3: return (int) m.add(3, a[0], a[1], a[2], a[3], a[4], a[5], a[6]);
            case 4: return (int) m.remove(a[0]);
            case 5: return (int) m.move(a[0], a[1], a[2]);
            case 6: return m.node(a[0], a[1]);
            case 7:
                i = m.at(a[0]);
                m.index(a[1], 0, i.children.size() - 1);
                return i.children.get(a[1]);
            case 8: return m.count();
            case 9:
                i = m.at(a[0]);
                m.range(a[1], -100, 100);
                m.range(a[2], -100, 100);
                before = i.dx;
                i.dx = a[1];
                i.dy = a[2];
                return before;
            case 10:
                i = m.at(a[0]);
                m.range(a[1], -1, 255);
                before = i.fill;
                i.fill = a[1];
                return before;
            case 11:
                i = m.at(a[0]);
                m.range(a[1], 0, 8);
                before = i.opacity;
                i.opacity = a[1];
                i.hidden = flag;
                return before;
            case 12:
                i = m.at(a[0]);
                m.range(a[1], -100, 100);
                m.range(a[2], -100, 100);
                m.range(a[3], 0, 100);
                m.range(a[4], 0, 100);
                before = i.clip != null;
                i.clip = a[3] == 0 ? null : new int[] {a[1], a[2], a[3], a[4]};
                return before;
            case 13:
                i = m.at(a[0]);
                if (i.sort != 0) {
                    throw new IllegalStateException();
                }
                before = i.masked;
                i.masked = flag;
                return before;
            case 14:
                m.range(a[0], 0, 255);
                before = m.ground;
                m.ground = a[0];
                return before;
            case 15:
                m.pixel(a[0], a[1]);
                return m.value(a[0], a[1]);
            case 16:
                m.pixel(a[0], a[1]);
                return m.hit(0, a[0], a[1]);
            case 17:
                m.at(a[0]);
                m.pixel(a[1], a[2]);
                return m.shows(a[0], a[1], a[2]);
            case 18:
                m.at(a[0]);
                m.index(a[1], 0, 4);
                return m.extent(a[0], a[1]);
            case 19:
                m.index(a[0], 0, 47);
                return m.changed(a[0]);
            case 20: return (int) m.paint();
            case 21:
                m.pixel(a[0], a[1]);
                return m.last[a[0]][a[1]];
            case 22: return m.mean();
            default: return m.digest();
        }
    }

    private static Object answer(PaintLayers p, int call, int[] a, boolean flag) {
        try {
            switch (call) {
                case 0: return p.addGroup(a[0]);
                case 1: return p.addRectangle(a[0], a[1], a[2], a[3], a[4]);
                case 2: return p.addDisc(a[0], a[1], a[2], a[3]);
                case 3: return p.addTriangle(a[0], a[1], a[2], a[3], a[4], a[5], a[6]);
                case 4: return p.remove(a[0]);
                case 5: return p.move(a[0], a[1], a[2]);
                case 6: return p.node(a[0], a[1]);
                case 7: return p.child(a[0], a[1]);
                case 8: return p.count();
                case 9: return p.place(a[0], a[1], a[2]);
                case 10: return p.setFill(a[0], a[1]);
                case 11: return p.setOpacity(a[0], a[1], flag);
                case 12: return p.setClip(a[0], a[1], a[2], a[3], a[4]);
                case 13: return p.setMask(a[0], flag);
                case 14: return p.setGround(a[0]);
                case 15: return p.value(a[0], a[1]);
                case 16: return p.hit(a[0], a[1]);
                case 17: return p.shows(a[0], a[1], a[2]);
                case 18: return p.extent(a[0], a[1]);
                case 19: return p.changed(a[0]);
                case 20: return p.paint();
                case 21: return p.painted(a[0], a[1]);
                case 22: return p.mean();
                default: return p.digest();
            }
        } catch (RuntimeException e) {
            return e.getClass().getSimpleName();
        }
    }

    // What the seven numbers of a call are like: n node, o offset or coordinate, s size, r radius, w what,
    // i index, f fill, p opacity, x and y pixel, g ground, e what of extent, t tile, c size of a clip.
    private static final String[] KINDS = {"n", "nooss", "noor", "noooooo", "n", "nni", "nw", "ni", "", "noo", "nf",
        "np", "noocc", "n", "g", "xy", "xy", "nxy", "ne", "t", "", "xy", "", ""};
    private static final int[] WEIGHTS = {6, 6, 6, 6, 2, 8, 6, 4, 1, 10, 6, 7, 6, 6, 2, 5, 5, 5, 3, 2, 1, 3, 1, 1};

    private static int number(Random random, char kind, int came) {
        if (random.nextInt(60) == 0) {
            return EDGES[random.nextInt(EDGES.length)];
        }
        switch (kind) {
            case 'n': return random.nextInt(4) == 0 ? random.nextInt(4) : random.nextInt(came + 1);
            case 'o': return random.nextInt(3) == 0 ? random.nextInt(203) - 101 : random.nextInt(50) - 5;
            case 's': return random.nextInt(103) / (1 + random.nextInt(4));
            case 'c': return random.nextInt(103) / (1 + random.nextInt(3));
            case 'r': return random.nextInt(63) / (1 + random.nextInt(4));
            case 'w': return random.nextInt(14) - random.nextInt(2);
            case 'i': return random.nextInt(6) - random.nextInt(2);
            case 'f': return random.nextInt(260) - 2;
            case 'p': return random.nextInt(3) == 0 ? random.nextInt(11) - 1 : 4 + random.nextInt(5);
            case 'x': return random.nextInt(66) - 1;
            case 'y': return random.nextInt(50) - 1;
            case 'g': return random.nextInt(258) - 1;
            case 'e': return random.nextInt(7) - 1;
            default: return random.nextInt(50) - 1;
        }
    }

    private static int pick(Random random) {
        int all = 0;
        for (int w : WEIGHTS) {
            all += w;
        }
        int at = random.nextInt(all);
        int call = 0;
        while (at >= WEIGHTS[call]) {
            at -= WEIGHTS[call];
            call++;
        }
        return call;
    }

    private static boolean run(int seed) {
        Random random = new Random(seed);
        PaintLayers p = new PaintLayers();
        Model m = new Model();
        for (int k = 0; k < CALLS; k++) {
            int call = pick(random);
            // Groups that are found at once, and nodes that last, lead to deep trees.
            if (call == 4 && random.nextInt(3) != 0) {
                call = 5;
            }
            int[] a = new int[7];
            for (int i = 0; i < KINDS[call].length(); i++) {
                a[i] = number(random, KINDS[call].charAt(i), m.items.size());
            }
            boolean flag = random.nextInt(call == 11 ? 5 : 2) == 0;
            Object want = modelAnswer(m, call, a, flag);
            Object got = answer(p, call, a, flag);
            if (!want.equals(got)) {
                System.out.println("run " + seed + ", call " + k + " (" + call + " " + java.util.Arrays.toString(a)
                        + " " + flag + ") answered " + got + ", due is " + want);
                return false;
            }
        }
        return true;
    }

    public static void main(String[] args) {
        int wrong = 0;
        int runs = args.length > 0 ? Integer.parseInt(args[0]) : RUNS;
        for (int seed = 1; seed <= runs; seed++) {
            wrong += run(seed) ? 0 : 1;
        }
        System.out.println(runs + " runs, " + wrong + " of them not as due");
        if (wrong != 0) {
            System.exit(1);
        }
    }
}
