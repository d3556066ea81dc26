/** The sentences of the document's section 'Terms', one after the other, each at its edges. */
public final class TermsTests extends Asking {
    private interface InShape {
        boolean holds(int x, int y);
    }

    public static void main(String[] args) {
        usedFor512Calls();
        pictureOf64By48();
        pixelsOutsideThePicture();
        valuesFrom0To255();
        tilesRowByRow();
        groundAtFirst();
        node0IsTheRoot();
        numbersInTheirOrder();
        noNumberIsGivenAgain();
        atMost40Come();
        eachNodeHasAParentThatIsAGroup();
        laterChildrenAreAbove();
        offsetsTogether();
        edgesOfARectangle();
        edgesOfADisc();
        allRadii();
        edgesOfATriangle();
        allSmallTriangles();
        largestShapesFarAway();
        fillOfTheNearestGroup();
        strengthFromTheRootDown();
        hiddenNodes();
        edgesOfAClip();
        clipsOfAllAbove();
        clipsMoveWithTheirNodes();
        maskedWithoutAChild();
        maskIsTheFirstChild();
        maskIsAGroup();
        maskHiddenOrClipped();
        masksAboveOneAnother();
        withinAMaskNothingIsShown();
        paintedChildByChild();
        cutTowards0();
        end();
    }

    // ---- the object, the picture

    /** "An object is used for at most 512 calls": the 512th still answers. */
    private static void usedFor512Calls() {
        PaintLayers p = new PaintLayers();
        for (int call = 1; call < 40; call++) {
            p.addDisc(0, call, call, 5);
        }
        for (int call = 40; call < 511; call++) {
            p.setClip(call % 40, -50, -50, 100, 100);
        }
        due("the 511th call: six tiles on the diagonal and five on each side of it", 16, () -> p.paint());
        due("the 512th call", true, () -> p.shows(39, 39, 39));
    }

    /** "It has 64 by 48 pixels, x from 0 to 63 and y from 0 to 47". */
    private static void pictureOf64By48() {
        PaintLayers p = new PaintLayers();
        p.addRectangle(0, -10, -10, 100, 100);
        p.paint();
        due("all pixels", "3072 0 63 0 47", () -> extents(p, 1));
        int[][] corners = {{0, 0}, {63, 0}, {0, 47}, {63, 47}};
        for (int[] c : corners) {
            String at = " at " + c[0] + " " + c[1];
            due("value" + at, 255, () -> p.value(c[0], c[1]));
            due("hit" + at, 1, () -> p.hit(c[0], c[1]));
            due("shows" + at, true, () -> p.shows(1, c[0], c[1]));
            due("painted" + at, 255, () -> p.painted(c[0], c[1]));
        }
    }

    private static void pixelsOutsideThePicture() {
        PaintLayers p = new PaintLayers();
        p.addRectangle(0, -10, -10, 100, 100);
        p.paint();
        int[][] outside = {{-1, 0}, {0, -1}, {-1, -1}, {64, 0}, {63, -1}, {64, -1}, {0, 48}, {-1, 47}, {-1, 48},
            {64, 47}, {63, 48}, {64, 48}, {48, 63}, {LOW, 0}, {0, LOW}, {HIGH, 0}, {0, HIGH}, {HIGH, HIGH}, {LOW, LOW}};
        for (int[] o : outside) {
            String at = " at " + o[0] + " " + o[1];
            due("value" + at, INDEX, () -> p.value(o[0], o[1]));
            due("hit" + at, INDEX, () -> p.hit(o[0], o[1]));
            due("shows" + at, INDEX, () -> p.shows(1, o[0], o[1]));
            due("painted" + at, INDEX, () -> p.painted(o[0], o[1]));
        }
    }

    /** "each with a value, 0 to 255". */
    private static void valuesFrom0To255() {
        PaintLayers p = new PaintLayers();
        p.addRectangle(0, 0, 0, 1, 1);
        p.setFill(1, 0);
        for (int opacity = 0; opacity <= 8; opacity++) {
            int strength = opacity;
            p.setOpacity(1, opacity, false);
            p.setGround(0);
            due("0 on 0", 0, () -> p.value(0, 0));
            p.setGround(255);
            due("0 on 255", 255 * (8 - strength) / 8, () -> p.value(0, 0));
            p.setFill(1, 255);
            due("255 on 255", 255, () -> p.value(0, 0));
            p.setGround(0);
            due("255 on 0", 255 * strength / 8, () -> p.value(0, 0));
            p.setFill(1, 0);
        }
    }

    /** "tile k has the pixels with x / 8 = k % 8 and y / 8 = k / 8". */
    private static void tilesRowByRow() {
        PaintLayers p = new PaintLayers();
        p.addRectangle(0, 0, 0, 8, 8);
        for (int tile = 0; tile < TILES; tile++) {
            p.place(1, tile % 8 * 8, tile / 8 * 8);
            for (int other = 0; other < TILES; other++) {
                int asked = other;
                due("pixels of tile " + tile + " in " + other, other == tile ? 64 : 0, () -> p.changed(asked));
            }
        }
        PaintLayers pixel = new PaintLayers();
        pixel.addRectangle(0, 0, 0, 1, 1);
        for (int tile = 0; tile < TILES; tile++) {
            for (int corner = 0; corner < 4; corner++) {
                pixel.place(1, tile % 8 * 8 + corner % 2 * 7, tile / 8 * 8 + corner / 2 * 7);
                int asked = tile;
                due("corner " + corner + " of tile " + tile, 1, () -> pixel.changed(asked));
            }
        }
    }

    private static void groundAtFirst() {
        PaintLayers p = new PaintLayers();
        due("the ground at first, as a value", 0, () -> p.value(63, 47));
        due("the ground at first", 0, () -> p.setGround(0));
    }

    // ---- nodes

    private static void node0IsTheRoot() {
        PaintLayers p = new PaintLayers();
        due("the root is a group", 0, () -> p.node(0, 0));
        due("the root has no parent", -1, () -> p.node(0, 1));
        due("the root has place 0", 0, () -> p.node(0, 2));
        due("the root takes a child", 1, () -> p.addDisc(0, 1, 1, 1));
        due("the root has it", 1, () -> p.child(0, 0));
    }

    private static void numbersInTheirOrder() {
        PaintLayers p = new PaintLayers();
        due("number 1", 1, () -> p.addTriangle(0, 0, 0, 4, 0, 0, 4));
        due("number 2", 2, () -> p.addGroup(0));
        due("number 3", 3, () -> p.addRectangle(2, 0, 0, 1, 1));
        due("number 4", 4, () -> p.addDisc(0, 0, 0, 1));
        due("a number that has not come", INDEX, () -> p.node(5, 0));
        due("sorts by their numbers", "3 0 1 2", () -> p.node(1, 0) + " " + p.node(2, 0) + " " + p.node(3, 0) + " "
                + p.node(4, 0));
    }

    private static void noNumberIsGivenAgain() {
        PaintLayers p = new PaintLayers();
        p.addGroup(0);
        p.addGroup(0);
        p.remove(2);
        due("after the last one is gone", 3, () -> p.addGroup(0));
        p.remove(1);
        due("after the first one is gone", 4, () -> p.addRectangle(0, 0, 0, 1, 1));
        p.remove(3);
        p.remove(4);
        due("after all are gone", 5, () -> p.addDisc(0, 0, 0, 1));
        for (int gone = 1; gone <= 4; gone++) {
            int number = gone;
            due("no node any more", INDEX, () -> p.node(number, 0));
        }
    }

    /** "at most 40 come (with node 0)": 39 is the last number, for each sort, and though others are gone. */
    private static void atMost40Come() {
        for (int sort = 0; sort < 4; sort++) {
            PaintLayers p = new PaintLayers();
            int last = sort;
            for (int number = 1; number <= 38; number++) {
                p.addGroup(0);
            }
            due("one less than all", 39, () -> p.count());
            due("the last that comes, sort " + sort, 39, () -> add(p, last));
            due("all", 40, () -> p.count());
            for (int more = 0; more < 4; more++) {
                int next = more;
                due("one more, sort " + more, STATE, () -> add(p, next));
            }
            due("as many as before", 40, () -> p.count());
            due("the last can go", 1, () -> p.remove(39));
            for (int more = 0; more < 4; more++) {
                int next = more;
                due("no other in its place, sort " + more, STATE, () -> add(p, next));
            }
            p.remove(1);
            due("nor in another's", STATE, () -> p.addGroup(0));
            due("two are gone", 38, () -> p.count());
        }
    }

    private static int add(PaintLayers p, int sort) {
        switch (sort) {
            case 0: return p.addGroup(0);
            case 1: return p.addRectangle(0, 0, 0, 1, 1);
            case 2: return p.addDisc(0, 0, 0, 1);
            default: return p.addTriangle(0, 0, 0, 4, 0, 0, 4);
        }
    }

    private static void eachNodeHasAParentThatIsAGroup() {
        PaintLayers p = new PaintLayers();
        for (int group = 1; group <= 38; group++) {
            int above = group - 1;
            due("a group in group " + above, group, () -> p.addGroup(above));
        }
        due("a shape 39 deep", 39, () -> p.addRectangle(38, 0, 0, 1, 1));
        due("its parent", 38, () -> p.node(39, 1));
        due("it is shown", true, () -> p.shows(0, 0, 0));
        due("it is hit", 39, () -> p.hit(0, 0));
        due("all are taken away", 39, () -> p.remove(1));
        due("the root is left", 1, () -> p.count());
    }

    private static void laterChildrenAreAbove() {
        PaintLayers p = new PaintLayers();
        p.addRectangle(0, 0, 0, 2, 2);
        p.addGroup(0);
        p.addRectangle(0, 0, 0, 2, 2);
        p.addRectangle(2, 0, 0, 2, 2);
        for (int node : new int[] {1, 3, 4}) {
            p.setFill(node, 10 * node);
        }
        due("the later one above", 3, () -> p.hit(0, 0));
        due("its value", 30, () -> p.value(0, 0));
        p.remove(3);
        due("the later group's above", 4, () -> p.hit(0, 0));
        due("its value", 40, () -> p.value(0, 0));
        p.move(1, 0, 1);
        due("moved above, though it came earlier", 1, () -> p.hit(0, 0));
        due("its value", 10, () -> p.value(0, 0));
    }

    /** "its place is moved by its own offset and by those of all groups above it, together". */
    private static void offsetsTogether() {
        PaintLayers p = new PaintLayers();
        p.addGroup(0);
        p.addGroup(1);
        p.addRectangle(2, 0, 0, 1, 1);
        due("no offset at first", "1 0 0 0 0", () -> extents(p, 3));
        p.place(3, 1, 2);
        due("its own", "1 1 1 2 2", () -> extents(p, 3));
        p.place(2, 10, 3);
        due("its parent's", "1 11 11 5 5", () -> extents(p, 3));
        p.place(1, 20, 4);
        due("the one's above", "1 31 31 9 9", () -> extents(p, 3));
        p.place(0, 32, 38);
        due("the root's, to the last pixel", "1 63 63 47 47", () -> extents(p, 3));
        p.place(0, 33, 38);
        due("one beyond it in x", 0, () -> p.extent(3, 0));
        p.place(0, 32, 39);
        due("one beyond it in y", 0, () -> p.extent(3, 0));
        p.place(0, -31, -9);
        due("to the first pixel", "1 0 0 0 0", () -> extents(p, 3));
        p.place(0, -32, -9);
        due("one before it in x", 0, () -> p.extent(3, 0));
        p.place(0, -31, -10);
        due("one before it in y", 0, () -> p.extent(3, 0));
        due("its own offset is told", "1 2", () -> p.node(3, 4) + " " + p.node(3, 5));
        p.place(0, 0, 0);
        p.move(3, 0, 0);
        due("moved, it leaves the groups' offsets", "1 1 1 2 2", () -> extents(p, 3));
    }

    // ---- shapes

    /** Each pixel of the picture shows the node, if the document's sentence holds for it. */
    private static void dueShape(String what, PaintLayers p, int node, InShape in) {
        int wrongX = -1;
        int wrongY = -1;
        for (int y = 0; y < HEIGHT; y++) {
            for (int x = 0; x < WIDTH; x++) {
                if (p.shows(node, x, y) != in.holds(x, y)) {
                    wrongX = x;
                    wrongY = y;
                }
            }
        }
        int x = wrongX;
        int y = wrongY;
        due(what + ": no pixel is wrong", "-1 -1", () -> x + " " + y);
    }

    /** "if left <= x < left + width, and likewise with y". */
    private static void edgesOfARectangle() {
        PaintLayers p = new PaintLayers();
        p.addRectangle(0, 10, 20, 5, 7);
        int[][] inside = {{10, 20}, {14, 20}, {10, 26}, {14, 26}};
        int[][] outside = {{9, 20}, {10, 19}, {15, 20}, {14, 19}, {9, 26}, {10, 27}, {15, 26}, {14, 27}};
        for (int[] i : inside) {
            due("in the rectangle " + i[0] + " " + i[1], true, () -> p.shows(1, i[0], i[1]));
        }
        for (int[] o : outside) {
            due("beside the rectangle " + o[0] + " " + o[1], false, () -> p.shows(1, o[0], o[1]));
        }
        int[] edges = {-100, -99, -64, -1, 0, 1, 47, 48, 62, 63, 64, 100};
        int[] lengths = {1, 2, 48, 63, 64, 65, 99, 100};
        for (int edge : edges) {
            for (int length : lengths) {
                PaintLayers q = new PaintLayers();
                q.addRectangle(0, edge, -10, length, 100);
                q.addRectangle(0, -10, edge, 100, length);
                dueShape("columns " + edge + " " + length, q, 1, (x, y) -> edge <= x && x < edge + length);
                dueShape("rows " + edge + " " + length, q, 2, (x, y) -> edge <= y && y < edge + length);
            }
        }
    }

    /** No sum of two odd squares is 4 * r * r: the nearest ones are 2 below it and 2 above it. */
    private static void edgesOfADisc() {
        PaintLayers p = new PaintLayers();
        p.addDisc(0, 10, 10, 1);
        due("1 + 1 <= 4", true, () -> p.shows(1, 10, 10));
        due("1 + 9 > 4", false, () -> p.shows(1, 10, 11));
        p.addDisc(0, 10, 10, 2);
        due("9 + 1 <= 16", true, () -> p.shows(2, 11, 10));
        due("9 + 9 > 16, by 2", false, () -> p.shows(2, 11, 11));
        p.addDisc(0, 30, 20, 3);
        due("25 + 9 <= 36, by 2", true, () -> p.shows(3, 32, 21));
        due("9 + 25 <= 36, by 2", true, () -> p.shows(3, 28, 17));
        due("25 + 25 > 36", false, () -> p.shows(3, 32, 22));
        p.addDisc(0, 30, 20, 5);
        due("49 + 49 <= 100, by 2", true, () -> p.shows(4, 33, 23));
        due("81 + 9 <= 100", true, () -> p.shows(4, 34, 21));
        due("81 + 25 > 100", false, () -> p.shows(4, 34, 22));
        p.addDisc(0, 30, 24, 10);
        due("361 + 49 > 400", false, () -> p.shows(5, 39, 27));
        due("361 + 25 <= 400", true, () -> p.shows(5, 39, 26));
        due("289 + 121 > 400", false, () -> p.shows(5, 38, 29));
        due("289 + 81 <= 400", true, () -> p.shows(5, 38, 28));
    }

    private static boolean inDisc(int x, int y, int cx, int cy, int r) {
        return (2 * x + 1 - 2 * cx) * (2 * x + 1 - 2 * cx) + (2 * y + 1 - 2 * cy) * (2 * y + 1 - 2 * cy) <= 4 * r * r;
    }

    private static void allRadii() {
        int[][] middles = {{32, 24}, {0, 0}, {63, 47}, {64, 48}, {-20, 10}, {30, 90}, {-30, -30}};
        for (int r = 1; r <= 60; r++) {
            int radius = r;
            PaintLayers p = new PaintLayers();
            for (int[] m : middles) {
                int node = p.addDisc(0, m[0], m[1], r);
                dueShape("disc " + m[0] + " " + m[1] + " " + r, p, node, (x, y) -> inDisc(x, y, m[0], m[1], radius));
            }
        }
    }

    /** A middle on a side counts, whichever side it is and whichever way the corners go round. */
    private static void edgesOfATriangle() {
        int[][] orders = {{0, 1, 2}, {1, 2, 0}, {2, 0, 1}, {0, 2, 1}, {2, 1, 0}, {1, 0, 2}};
        int[][] corners = {{10, 10}, {20, 10}, {10, 20}};
        for (int[] o : orders) {
            int[] a = corners[o[0]];
            int[] b = corners[o[1]];
            int[] c = corners[o[2]];
            String what = "triangle " + o[0] + o[1] + o[2];
            PaintLayers p = new PaintLayers();
            p.addTriangle(0, a[0], a[1], b[0], b[1], c[0], c[1]);
            due(what, "55 10 19 10 19", () -> extents(p, 1));
            due(what + ": on its long side", true, () -> p.shows(1, 14, 15));
            due(what + ": beyond its long side", false, () -> p.shows(1, 15, 15));
            due(what + ": its first pixel", true, () -> p.shows(1, 10, 10));
            due(what + ": left of it", false, () -> p.shows(1, 9, 10));
            due(what + ": above it", false, () -> p.shows(1, 10, 9));
        }
        int[][] flat = {{0, 0, 10, 10, 20, 20}, {0, 0, 20, 20, 10, 10}, {5, 5, 5, 5, 9, 9}, {9, 9, 5, 5, 5, 5},
            {5, 5, 9, 9, 5, 5}, {7, 7, 7, 7, 7, 7}, {0, 5, 20, 5, 10, 5}, {5, 0, 5, 20, 5, 10}, {0, 1, 9, 10, 4, 5},
            {-100, -100, 0, 0, 100, 100}};
        for (int[] f : flat) {
            PaintLayers p = new PaintLayers();
            p.addTriangle(0, f[0], f[1], f[2], f[3], f[4], f[5]);
            due("a flat triangle has no pixel", "0 -1 -1 -1 -1", () -> extents(p, 1));
        }
    }

    private static int side(int ax, int ay, int bx, int by, int px, int py) {
        return (bx - ax) * (py - ay) - (by - ay) * (px - ax);
    }

    private static boolean inTriangle(int x, int y, int[] t) {
        int[] d = new int[6];
        for (int i = 0; i < 6; i++) {
            d[i] = 2 * t[i];
        }
        int one = side(d[0], d[1], d[2], d[3], 2 * x + 1, 2 * y + 1);
        int two = side(d[2], d[3], d[4], d[5], 2 * x + 1, 2 * y + 1);
        int three = side(d[4], d[5], d[0], d[1], 2 * x + 1, 2 * y + 1);
        boolean allUp = one >= 0 && two >= 0 && three >= 0;
        boolean allDown = one <= 0 && two <= 0 && three <= 0;
        boolean allNone = one == 0 && two == 0 && three == 0;
        return (allUp || allDown) && !allNone;
    }

    /** All triangles with corners on a grid of 4 by 4 points, each of them counted by the document's three numbers. */
    private static void allSmallTriangles() {
        PaintLayers p = new PaintLayers();
        int wrongOnes = 0;
        for (int corners = 0; corners < 4096; corners++) {
            int[] t = new int[6];
            for (int i = 0; i < 6; i++) {
                t[i] = (corners >> 2 * i & 3) * (i < 2 ? 1 : 2);
            }
            if (p.count() == 40) {
                p = new PaintLayers();
            }
            int node = p.addTriangle(0, t[0], t[1], t[2], t[3], t[4], t[5]);
            int pixels = 0;
            for (int y = 0; y < 8; y++) {
                for (int x = 0; x < 8; x++) {
                    pixels += inTriangle(x, y, t) ? 1 : 0;
                    wrongOnes += p.shows(node, x, y) == inTriangle(x, y, t) ? 0 : 1;
                }
            }
            wrongOnes += p.extent(node, 0) == pixels ? 0 : 1;
        }
        int all = wrongOnes;
        due("small triangles, wrong pixels", 0, () -> all);
    }

    /** The largest numbers of the document: far offsets that bring a far shape back into the picture. */
    private static void largestShapesFarAway() {
        int[] far = {-100, -100, 100, -90, -80, 100};
        PaintLayers p = new PaintLayers();
        p.addTriangle(0, far[0], far[1], far[2], far[3], far[4], far[5]);
        dueShape("a large triangle", p, 1, (x, y) -> inTriangle(x, y, far));
        p.place(1, 100, 100);
        dueShape("moved by the greatest offset", p, 1, (x, y) -> inTriangle(x - 100, y - 100, far));
        p.place(0, -37, -52);
        dueShape("moved by two offsets", p, 1, (x, y) -> inTriangle(x - 63, y - 48, far));
        PaintLayers deep = new PaintLayers();
        for (int group = 1; group <= 38; group++) {
            deep.addGroup(group - 1);
            deep.place(group, group <= 19 ? 100 : -100, group <= 19 ? -100 : 100);
        }
        deep.addDisc(38, 100, -100, 60);
        deep.place(39, -100, 100);
        dueShape("a disc that is moved far away and back", deep, 39, (x, y) -> inDisc(x, y, 0, 0, 60));
        deep.place(1, -100, 100);
        due("and a little less far back", "0 -1 -1 -1 -1", () -> extents(deep, 39));
    }

    // ---- what is inherited

    /** "then it has that of the nearest group above it that has one; 255, if there is none". */
    private static void fillOfTheNearestGroup() {
        PaintLayers p = new PaintLayers();
        p.addGroup(0);
        p.addGroup(1);
        p.addRectangle(2, 0, 0, 1, 1);
        due("none has one", 255, () -> p.node(3, 7));
        due("it has none of its own", -1, () -> p.node(3, 6));
        due("painted with 255", 255, () -> p.value(0, 0));
        p.setFill(0, 10);
        due("the root has one", 10, () -> p.node(3, 7));
        p.setFill(1, 0);
        due("a nearer one, 0", 0, () -> p.node(3, 7));
        due("painted with 0", 0, () -> p.value(0, 0));
        p.setFill(2, 30);
        due("the nearest", 30, () -> p.node(3, 7));
        p.setFill(3, 0);
        due("its own, 0", 0, () -> p.node(3, 7));
        due("its own is told", 0, () -> p.node(3, 6));
        p.setFill(3, -1);
        p.setFill(2, -1);
        due("not the nearest any more", 0, () -> p.node(3, 7));
        p.move(3, 0, 0);
        due("moved to the root", 10, () -> p.node(3, 7));
        p.setFill(0, -1);
        due("255 for the root too", 255, () -> p.node(0, 7));
        p.addRectangle(1, 0, 0, 1, 1);
        p.addRectangle(1, 0, 0, 1, 1);
        p.setFill(4, 77);
        due("not that of a shape beside it", 0, () -> p.node(5, 7));
    }

    /** "8, and then, from the root down to the node, it becomes strength * opacity / 8 for each of them". */
    private static void strengthFromTheRootDown() {
        PaintLayers p = new PaintLayers();
        p.addGroup(0);
        p.addGroup(1);
        p.addRectangle(2, 0, 0, 1, 1);
        for (int all = 0; all < 9 * 9 * 9 * 9; all += 7) {
            int[] o = {all % 9, all / 9 % 9, all / 81 % 9, all / 729};
            int strength = 8;
            for (int node = 0; node < 4; node++) {
                p.setOpacity(node, o[node], false);
                strength = strength * o[node] / 8;
                int want = strength;
                int asked = node;
                due("strength of " + node, want, () -> p.node(asked, 9));
            }
            int want = 255 * strength / 8;
            due("painted with it", want, () -> p.value(0, 0));
        }
        PaintLayers q = new PaintLayers();
        q.addGroup(0);
        q.addGroup(1);
        q.addDisc(2, 0, 0, 1);
        q.setOpacity(0, 7, false);
        q.setOpacity(2, 1, false);
        q.setOpacity(3, 7, false);
        due("7, 8, 1 and 7 leave none", 0, () -> q.node(3, 9));
        q.setOpacity(2, 2, false);
        q.setOpacity(3, 8, false);
        due("7, 8, 2 and 8 leave 1", 1, () -> q.node(3, 9));
        q.setOpacity(0, 8, true);
        due("hidden, it has its strength", 2, () -> q.node(3, 9));
    }

    /** "if neither it nor a group above it is hidden". */
    private static void hiddenNodes() {
        PaintLayers p = new PaintLayers();
        p.addGroup(0);
        p.addGroup(1);
        p.addRectangle(2, 0, 0, 1, 1);
        p.addRectangle(1, 0, 0, 1, 1);
        for (int hidden : new int[] {0, 1, 2, 3}) {
            p.setOpacity(hidden, 8, true);
            due("hidden by " + hidden, false, () -> p.shows(3, 0, 0));
            due("the one beside, hidden by " + hidden, hidden >= 2, () -> p.shows(4, 0, 0));
            due("hit with " + hidden + " hidden", hidden >= 2 ? 4 : -1, () -> p.hit(0, 0));
            for (int node = 0; node < 5; node++) {
                int asked = node;
                boolean isBelow = node > hidden && (node != 4 || hidden < 2);
                due("told of " + node, node == hidden ? 1 : isBelow ? 2 : 0, () -> p.node(asked, 10));
            }
            p.setOpacity(hidden, 8, false);
            due("not hidden any more", true, () -> p.shows(3, 0, 0));
        }
    }

    // ---- clips

    private static void edgesOfAClip() {
        int[] edges = {-100, -99, -64, -1, 0, 1, 47, 48, 62, 63, 64, 100};
        int[] lengths = {1, 2, 48, 63, 64, 65, 99, 100};
        PaintLayers p = new PaintLayers();
        p.addRectangle(0, -10, -10, 100, 100);
        for (int node : new int[] {0, 1}) {
            for (int edge : edges) {
                for (int length : lengths) {
                    p.setClip(node, edge, -10, length, 100);
                    dueShape("clip of columns", p, 1, (x, y) -> edge <= x && x < edge + length);
                    p.setClip(node, -10, edge, 100, length);
                    dueShape("clip of rows", p, 1, (x, y) -> edge <= y && y < edge + length);
                }
            }
            p.setClip(node, 0, 0, 0, 0);
            due("no clip any more", 3072, () -> p.extent(1, 0));
            p.setClip(node, 0, 0, 64, 0);
            due("a clip without height is one", 1, () -> p.node(node, 11));
            due("and has no pixel", "0 -1 -1 -1 -1", () -> extents(p, 1));
            p.setClip(node, 0, 0, 0, 48);
            due("one without width is none", 0, () -> p.node(node, 11));
            due("all pixels again", 3072, () -> p.extent(1, 0));
        }
    }

    /** "if it lies within the clips of it and all groups above it that have one". */
    private static void clipsOfAllAbove() {
        PaintLayers p = new PaintLayers();
        p.addGroup(0);
        p.addGroup(1);
        p.addRectangle(2, 0, 0, 64, 48);
        p.addRectangle(1, 0, 0, 64, 48);
        p.setClip(0, 1, 1, 40, 40);
        due("the root's", "1600 1 40 1 40", () -> extents(p, 3));
        p.setClip(2, 0, 0, 5, 6);
        due("the parent's too", "20 1 4 1 5", () -> extents(p, 3));
        p.setClip(3, 3, 3, 100, 100);
        due("its own too", "6 3 4 3 5", () -> extents(p, 3));
        p.setClip(1, 4, 0, 1, 4);
        due("that between too", "1 4 4 3 3", () -> extents(p, 3));
        due("another's are not its own", "3 4 4 1 3", () -> extents(p, 4));
        p.setClip(1, 5, 0, 9, 9);
        due("none in all", "0 -1 -1 -1 -1", () -> extents(p, 3));
    }

    /** "a rectangle that is moved as the node is". */
    private static void clipsMoveWithTheirNodes() {
        PaintLayers p = new PaintLayers();
        p.addGroup(0);
        p.addRectangle(1, -40, -40, 100, 100);
        p.setClip(1, 0, 0, 2, 2);
        p.place(0, 5, 6);
        due("by the root's offset", "4 5 6 6 7", () -> extents(p, 2));
        p.place(1, 10, 20);
        due("by its own too", "4 15 16 26 27", () -> extents(p, 2));
        p.place(2, 3, 3);
        due("not by that of a node below", "4 15 16 26 27", () -> extents(p, 2));
        p.place(0, 48, 26);
        due("to the last pixels", "4 58 59 46 47", () -> extents(p, 2));
        p.place(0, 48, 27);
        due("half out of the picture", "2 58 59 47 47", () -> extents(p, 2));
        p.place(0, 48, 28);
        due("out of the picture", "0 -1 -1 -1 -1", () -> extents(p, 2));
        p.place(0, -11, -21);
        due("out at the other corner, but for one", "1 0 0 0 0", () -> extents(p, 2));
    }

    // ---- masks

    /** "for each masked group above it that has a child". */
    private static void maskedWithoutAChild() {
        PaintLayers p = new PaintLayers();
        p.setMask(0, true);
        due("a masked root without a child", "0 -1 -1 -1 -1", () -> extents(p, 0));
        due("nothing is painted", 0, () -> p.paint());
        p.setMask(0, false);
        p.addGroup(0);
        p.addRectangle(0, 0, 0, 3, 3);
        p.setMask(1, true);
        due("an empty masked group beside", 9, () -> p.extent(2, 0));
        due("it tells that it is masked", 1, () -> p.node(1, 12));
        p.move(2, 1, 0);
        due("the first child that comes is the mask", 0, () -> p.extent(2, 0));
        p.move(2, 0, 0);
        due("masked and empty again", 9, () -> p.extent(2, 0));
    }

    private static void maskIsTheFirstChild() {
        PaintLayers p = new PaintLayers();
        p.addGroup(0);
        p.addRectangle(1, 10, 10, 5, 5);
        p.addRectangle(1, 12, 12, 20, 20);
        p.addRectangle(1, 0, 0, 64, 48);
        p.addRectangle(0, 0, 0, 64, 48);
        p.setMask(1, true);
        due("the mask is not shown", "0 -1 -1 -1 -1", () -> extents(p, 2));
        due("the second is shown in it", "9 12 14 12 14", () -> extents(p, 3));
        due("the third is shown in it", "25 10 14 10 14", () -> extents(p, 4));
        due("one outside the group is not masked", 3072, () -> p.extent(5, 0));
        due("the group shows what its shapes show", "25 10 14 10 14", () -> extents(p, 1));
        p.move(2, 1, 2);
        due("another is the first: it is not shown", 0, () -> p.extent(3, 0));
        due("the mask before is shown in it", "9 12 14 12 14", () -> extents(p, 2));
        p.remove(3);
        due("the next is the first", 0, () -> p.extent(4, 0));
        due("shown in it", "25 10 14 10 14", () -> extents(p, 2));
        p.place(4, 13, 0);
        due("the mask is moved", "10 13 14 10 14", () -> extents(p, 2));
        p.setMask(1, false);
        due("not masked any more", "25 10 14 10 14", () -> extents(p, 2));
        due("nor a mask any more", 51 * 48, () -> p.extent(4, 0));
    }

    /** "for a group as a mask: in one of the shapes anywhere below it". */
    private static void maskIsAGroup() {
        PaintLayers p = new PaintLayers();
        p.addGroup(0);
        p.addGroup(1);
        p.addRectangle(1, 0, 0, 64, 48);
        p.setMask(1, true);
        due("an empty group as the mask", "0 -1 -1 -1 -1", () -> extents(p, 3));
        p.addGroup(2);
        p.addGroup(4);
        due("groups alone below the mask", "0 -1 -1 -1 -1", () -> extents(p, 3));
        p.addRectangle(5, 7, 8, 2, 2);
        due("a shape far below the mask", "4 7 8 8 9", () -> extents(p, 3));
        p.addRectangle(2, 20, 8, 2, 2);
        due("two shapes below the mask", "8 7 21 8 9", () -> extents(p, 3));
        p.setMask(4, true);
        p.addRectangle(5, 30, 30, 2, 2);
        p.setMask(5, true);
        p.setMask(2, true);
        due("masks below the mask are shapes like others", "12 7 31 8 31", () -> extents(p, 3));
        p.place(5, 1, 1);
        due("moved below the mask", "12 8 32 8 32", () -> extents(p, 3));
        p.remove(4);
        due("shapes gone from below the mask", "4 20 21 8 9", () -> extents(p, 3));
    }

    /** "hidden or not, with clips or without". */
    private static void maskHiddenOrClipped() {
        PaintLayers p = new PaintLayers();
        p.addGroup(0);
        p.addGroup(1);
        p.addRectangle(2, 4, 4, 3, 3);
        p.addRectangle(1, 0, 0, 64, 48);
        p.setMask(1, true);
        String whole = "9 4 6 4 6";
        due("the mask", whole, () -> extents(p, 4));
        p.setOpacity(3, 8, true);
        due("a hidden shape", whole, () -> extents(p, 4));
        p.setOpacity(2, 8, true);
        due("a hidden group", whole, () -> extents(p, 4));
        p.setOpacity(3, 0, false);
        p.setOpacity(2, 0, false);
        due("without strength", whole, () -> extents(p, 4));
        p.setClip(3, 50, 40, 1, 1);
        due("a clipped shape", whole, () -> extents(p, 4));
        p.setClip(2, 0, 0, 1, 0);
        due("a clipped group", whole, () -> extents(p, 4));
        p.setClip(1, 0, 0, 5, 5);
        due("the masked group's clip counts", "1 4 4 4 4", () -> extents(p, 4));
        p.setOpacity(1, 8, true);
        due("and its hiding", 0, () -> p.extent(4, 0));
        p.setOpacity(1, 8, false);
        p.move(3, 1, 0);
        p.setClip(3, 0, 0, 1, 1);
        p.setOpacity(3, 8, true);
        due("a hidden, clipped shape as the mask itself", "1 4 4 4 4", () -> extents(p, 4));
    }

    private static void masksAboveOneAnother() {
        PaintLayers p = new PaintLayers();
        p.addRectangle(0, 0, 0, 10, 10);
        p.addGroup(0);
        p.addRectangle(2, 5, 5, 10, 10);
        p.addGroup(2);
        p.addRectangle(4, 9, 0, 10, 48);
        p.addRectangle(4, 0, 0, 64, 48);
        p.setMask(4, true);
        due("one mask", "480 9 18 0 47", () -> extents(p, 6));
        p.setMask(2, true);
        due("two masks", "60 9 14 5 14", () -> extents(p, 6));
        p.setMask(0, true);
        due("three masks", "5 9 9 5 9", () -> extents(p, 6));
        due("three masks, a pixel in them", 6, () -> p.hit(9, 9));
        due("in two of them", -1, () -> p.hit(10, 9));
        due("in the two others", -1, () -> p.hit(9, 10));
        p.place(1, 0, 20);
        due("no pixel in all three", "0 -1 -1 -1 -1", () -> extents(p, 6));
        p.place(1, 0, 0);
        p.setMask(2, false);
        due("the first and the last", "10 9 9 0 9", () -> extents(p, 6));
    }

    /** "it is no mask itself, and in no group that is one". */
    private static void withinAMaskNothingIsShown() {
        PaintLayers p = new PaintLayers();
        p.addGroup(0);
        p.addGroup(1);
        p.addGroup(2);
        p.addRectangle(3, 0, 0, 5, 5);
        p.addRectangle(1, 1, 1, 1, 1);
        due("no mask yet", 25, () -> p.extent(4, 0));
        p.setMask(3, true);
        due("a mask itself", 0, () -> p.extent(4, 0));
        p.setMask(3, false);
        p.setMask(2, true);
        due("in a group that is one", 0, () -> p.extent(4, 0));
        p.setMask(2, false);
        p.setMask(1, true);
        due("far below a group that is one", 0, () -> p.extent(4, 0));
        for (int group : new int[] {2, 3}) {
            due("nor do the groups of the mask show anything", 0, () -> p.extent(group, 0));
        }
        due("it is not hit", 5, () -> p.hit(1, 1));
        due("nor painted", 0, () -> p.value(0, 0));
        due("one beside the mask is shown", 1, () -> p.extent(5, 0));
        p.setMask(1, false);
        p.setMask(0, true);
        due("all in the mask of the root", "0 -1 -1 -1 -1", () -> extents(p, 0));
        p.addRectangle(0, 0, 0, 64, 48);
        due("masked by all of it", 25, () -> p.extent(6, 0));
    }

    // ---- painting

    /** "for all shapes that it shows, from the lowest one up (a group is painted child by child)". */
    private static void paintedChildByChild() {
        PaintLayers p = new PaintLayers();
        p.addGroup(0);
        p.addRectangle(0, 0, 0, 1, 1);
        p.addRectangle(1, 0, 0, 1, 1);
        p.addRectangle(1, 0, 0, 1, 1);
        p.setGround(200);
        p.setOpacity(0, 4, false);
        p.setFill(2, 90);
        p.setFill(3, 11);
        p.setFill(4, 255);
        int one = (200 * 4 + 11 * 4) / 8;
        int two = (one * 4 + 255 * 4) / 8;
        int three = (two * 4 + 90 * 4) / 8;
        due("the group first, child by child", three, () -> p.value(0, 0));
        p.move(1, 0, 1);
        int first = (200 * 4 + 90 * 4) / 8;
        int second = (first * 4 + 11 * 4) / 8;
        int third = (second * 4 + 255 * 4) / 8;
        due("the group last, child by child", third, () -> p.value(0, 0));
        due("the others have the ground", 200, () -> p.value(1, 0));
    }

    /** "what is said to be divided is cut towards 0", after each shape anew. */
    private static void cutTowards0() {
        PaintLayers p = new PaintLayers();
        p.addRectangle(0, 0, 0, 1, 1);
        p.setOpacity(1, 1, false);
        p.setFill(1, 7);
        due("7 / 8 is cut", 0, () -> p.value(0, 0));
        p.setFill(1, 8);
        due("8 / 8 is 1", 1, () -> p.value(0, 0));
        p.setFill(1, 15);
        due("15 / 8 is cut", 1, () -> p.value(0, 0));
        p.addRectangle(0, 0, 0, 1, 1);
        p.setOpacity(2, 1, false);
        p.setFill(2, 1);
        due("cut after each shape: (1 * 7 + 1) / 8", 1, () -> p.value(0, 0));
        p.setFill(2, 0);
        due("cut after each shape: 7 / 8", 0, () -> p.value(0, 0));
        p.setOpacity(2, 0, false);
        due("a shape without strength changes nothing", 1, () -> p.value(0, 0));
        PaintLayers many = new PaintLayers();
        int value = 255;
        many.setGround(255);
        for (int node = 1; node < 40; node++) {
            many.addRectangle(0, 0, 0, 1, 1);
            many.setFill(node, 1);
            many.setOpacity(node, 1, false);
            value = (value * 7 + 1) / 8;
        }
        int want = value;
        due("39 shapes above one another", want, () -> many.value(0, 0));
    }
}
