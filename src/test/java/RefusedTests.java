/**
 * "A method that throws an exception changes nothing. If several exceptions apply, the one that is named first is
 * thrown." Each refused call is made on a drawing of its own; what many later calls answer there is what they answer
 * on a drawing like it that nobody asked for the refused one.
 */
public final class RefusedTests extends Asking {
    private interface OnDrawing {
        Object run(PaintLayers p);
    }

    private interface OnNumber {
        Object run(PaintLayers p, int number);
    }

    private interface Making {
        PaintLayers make();
    }

    private static final int GROUP = 4;
    private static final int SHAPE = 3;
    private static final int GONE = 8;
    private static final int[] NO_NODES = {-1, GONE, 11, 39, 40, 41, LOW, HIGH};
    private static final int[] SHAPES = {2, 3, 5, 7};
    private static final int[] NO_PLACES = {-101, 101, LOW, HIGH};

    private static Making making;
    private static String answersLater;

    public static void main(String[] args) {
        of(RefusedTests::rich);
        addsWithoutParent();
        addsWithBadForms();
        addsToShapes();
        treeCalls();
        paintCalls();
        questions();
        of(RefusedTests::full);
        addsWhenFull();
        of(PaintLayers::new);
        rootAlone();
        of(RefusedTests::rootMasked);
        masksAndClips();
        end();
    }

    private static void of(Making all) {
        making = all;
        answersLater = later(making.make());
    }

    private static void refuse(String what, String exception, OnDrawing call) {
        PaintLayers p = making.make();
        due(what, exception, () -> call.run(p));
        due(what + " changes nothing", true, () -> later(p).equals(answersLater));
    }

    /** For each of the numbers the call is refused. */
    private static void refuseAll(String what, String exception, int[] numbers, OnNumber call) {
        for (int number : numbers) {
            refuse(what + ", with " + number, exception, p -> call.run(p, number));
        }
    }

    // ---- drawings

    /** Nodes 0 to 10 without 8, of all sorts, with all that a node can have; some of it painted, some not yet. */
    private static PaintLayers rich() {
        PaintLayers p = new PaintLayers();
        p.addGroup(0);
        p.addDisc(1, 20, 20, 15);
        p.addRectangle(1, 5, 6, 30, 20);
        p.addGroup(1);
        p.addTriangle(4, 10, 8, 40, 12, 15, 40);
        p.addGroup(0);
        p.addRectangle(6, 30, 10, 20, 30);
        p.addRectangle(0, 0, 0, 9, 9);
        p.addGroup(6);
        p.addDisc(0, 50, 30, 12);
        p.setMask(1, true);
        p.setFill(0, 40);
        p.setFill(3, 90);
        p.setFill(4, 130);
        p.setFill(10, 0);
        p.setOpacity(0, 7, false);
        p.setOpacity(4, 6, false);
        p.setOpacity(6, 5, true);
        p.setOpacity(10, 3, false);
        p.setClip(0, 1, 1, 58, 44);
        p.setClip(3, 8, 9, 20, 10);
        p.setClip(6, 30, 10, 10, 100);
        p.place(0, 2, 1);
        p.place(1, -3, 2);
        p.place(7, 4, -5);
        p.setGround(17);
        p.paint();
        p.remove(GONE);
        p.place(10, -6, -7);
        p.setGround(23);
        return p;
    }

    private static PaintLayers full() {
        PaintLayers p = rich();
        fillUp(p);
        return p;
    }

    /** A masked root with a mask alone, and a flat clip: both are easily lost. */
    private static PaintLayers rootMasked() {
        PaintLayers p = new PaintLayers();
        p.addRectangle(0, 0, 0, 30, 30);
        p.setMask(0, true);
        p.setClip(1, 1, 1, 10, 0);
        return p;
    }

    // ---- what later calls answer

    private static String later(PaintLayers p) {
        StringBuilder all = new StringBuilder();
        look(p, all);
        all.append(answerOf(() -> p.addGroup(0))).append(answerOf(() -> p.addRectangle(0, 3, 3, 40, 2)));
        for (int n = 0; n < 40; n++) {
            int node = n;
            all.append(' ').append(answerOf(() -> p.setOpacity(node, 8, false)));
        }
        look(p, all);
        for (int n = 0; n < 40; n++) {
            int node = n;
            all.append(' ').append(answerOf(() -> p.setMask(node, false)));
            all.append(' ').append(answerOf(() -> p.setClip(node, 0, 0, 0, 0)));
            all.append(' ').append(answerOf(() -> p.setFill(node, 6 * node)));
        }
        look(p, all);
        for (int n = 0; n < 40; n++) {
            int node = n;
            all.append(' ').append(answerOf(() -> p.place(node, 0, 0)));
        }
        all.append(' ').append(p.setGround(99)).append(' ').append(p.paint());
        look(p, all);
        return all.toString();
    }

    private static void look(PaintLayers p, StringBuilder all) {
        all.append('\n').append(p.count()).append(' ').append(p.digest()).append(' ').append(p.mean());
        for (int n = 0; n < 40; n++) {
            int node = n;
            if (!answerOf(() -> p.node(node, 0)).equals(INDEX)) {
                all.append('\n').append(told(p, n)).append(": ").append(children(p, n));
                all.append(", ").append(p.extent(n, 0));
            }
        }
        long pixels = 0;
        for (int y = 0; y < HEIGHT; y++) {
            for (int x = 0; x < WIDTH; x++) {
                pixels = ((pixels * 31 + p.value(x, y)) * 31 + p.hit(x, y)) * 31 + p.painted(x, y);
            }
        }
        all.append('\n').append(pixels).append('\n');
        for (int tile = 0; tile < TILES; tile++) {
            all.append(p.changed(tile)).append(' ');
        }
    }

    // ---- nodes

    private static void addsWithoutParent() {
        refuseAll("2: no such node", INDEX, NO_NODES, (p, n) -> p.addGroup(n));
        refuseAll("3: no such node", INDEX, NO_NODES, (p, n) -> p.addRectangle(n, 0, 0, 1, 1));
        refuseAll("4: no such node", INDEX, NO_NODES, (p, n) -> p.addDisc(n, 0, 0, 1));
        refuseAll("5: no such node", INDEX, NO_NODES, (p, n) -> p.addTriangle(n, 0, 0, 4, 0, 0, 4));
        refuseAll("3: no such node, and a bad width", INDEX, NO_NODES, (p, n) -> p.addRectangle(n, 0, 0, 0, 1));
        refuseAll("4: no such node, and a bad radius", INDEX, NO_NODES, (p, n) -> p.addDisc(n, 0, 0, 61));
        refuseAll("5: no such node, and a bad corner", INDEX, NO_NODES, (p, n) -> p.addTriangle(n, 0, 0, 4, 0, 0, 101));
    }

    private static void addsWithBadForms() {
        int[] noLengths = {-1, 0, 101, LOW, HIGH};
        int[] noRadii = {-1, 0, 61, LOW, HIGH};
        for (int parent : new int[] {0, GROUP, SHAPE}) {
            String on = " on " + parent;
            refuseAll("3: left" + on, ARGUMENT, NO_PLACES, (p, v) -> p.addRectangle(parent, v, 0, 1, 1));
            refuseAll("3: top" + on, ARGUMENT, NO_PLACES, (p, v) -> p.addRectangle(parent, 0, v, 1, 1));
            refuseAll("3: width" + on, ARGUMENT, noLengths, (p, v) -> p.addRectangle(parent, 0, 0, v, 1));
            refuseAll("3: height" + on, ARGUMENT, noLengths, (p, v) -> p.addRectangle(parent, 0, 0, 1, v));
            refuseAll("4: cx" + on, ARGUMENT, NO_PLACES, (p, v) -> p.addDisc(parent, v, 0, 1));
            refuseAll("4: cy" + on, ARGUMENT, NO_PLACES, (p, v) -> p.addDisc(parent, 0, v, 1));
            refuseAll("4: r" + on, ARGUMENT, noRadii, (p, v) -> p.addDisc(parent, 0, 0, v));
            refuseAll("5: ax" + on, ARGUMENT, NO_PLACES, (p, v) -> p.addTriangle(parent, v, 0, 4, 0, 0, 4));
            refuseAll("5: ay" + on, ARGUMENT, NO_PLACES, (p, v) -> p.addTriangle(parent, 0, v, 4, 0, 0, 4));
            refuseAll("5: bx" + on, ARGUMENT, NO_PLACES, (p, v) -> p.addTriangle(parent, 0, 0, v, 0, 0, 4));
            refuseAll("5: by" + on, ARGUMENT, NO_PLACES, (p, v) -> p.addTriangle(parent, 0, 0, 4, v, 0, 4));
            refuseAll("5: cx" + on, ARGUMENT, NO_PLACES, (p, v) -> p.addTriangle(parent, 0, 0, 4, 0, v, 4));
            refuseAll("5: cy" + on, ARGUMENT, NO_PLACES, (p, v) -> p.addTriangle(parent, 0, 0, 4, 0, 0, v));
        }
    }

    private static void addsToShapes() {
        refuseAll("2: a shape as the parent", STATE, SHAPES, (p, n) -> p.addGroup(n));
        refuseAll("3: a shape as the parent", STATE, SHAPES, (p, n) -> p.addRectangle(n, 0, 0, 1, 1));
        refuseAll("4: a shape as the parent", STATE, SHAPES, (p, n) -> p.addDisc(n, 0, 0, 1));
        refuseAll("5: a shape as the parent", STATE, SHAPES, (p, n) -> p.addTriangle(n, 0, 0, 4, 0, 0, 4));
    }

    private static void addsWhenFull() {
        int[] groups = {0, GROUP, 39};
        refuseAll("2: 40 came", STATE, groups, (p, n) -> p.addGroup(n));
        refuseAll("3: 40 came", STATE, groups, (p, n) -> p.addRectangle(n, 0, 0, 1, 1));
        refuseAll("4: 40 came", STATE, groups, (p, n) -> p.addDisc(n, 0, 0, 1));
        refuseAll("5: 40 came", STATE, groups, (p, n) -> p.addTriangle(n, 0, 0, 4, 0, 0, 4));
        refuseAll("2: 40 came, to a shape", STATE, SHAPES, (p, n) -> p.addGroup(n));
        refuseAll("3: 40 came, to a shape", STATE, SHAPES, (p, n) -> p.addRectangle(n, 0, 0, 1, 1));
        refuseAll("4: 40 came, to a shape", STATE, SHAPES, (p, n) -> p.addDisc(n, 0, 0, 1));
        refuseAll("5: 40 came, to a shape", STATE, SHAPES, (p, n) -> p.addTriangle(n, 0, 0, 4, 0, 0, 4));
        refuseAll("3: 40 came, and bad", ARGUMENT, new int[] {0, SHAPE}, (p, n) -> p.addRectangle(n, 0, 0, 1, 101));
        refuseAll("4: 40 came, and bad", ARGUMENT, new int[] {0, SHAPE}, (p, n) -> p.addDisc(n, -101, 0, 1));
        refuseAll("5: 40 came, and bad", ARGUMENT, new int[] {0, SHAPE},
                (p, n) -> p.addTriangle(n, 101, 0, 4, 0, 0, 4));
        int[] none = {-1, GONE, 40};
        refuseAll("2: 40 came, no parent", INDEX, none, (p, n) -> p.addGroup(n));
        refuseAll("3: 40 came, no parent", INDEX, none, (p, n) -> p.addRectangle(n, 0, 0, 1, 1));
        refuseAll("4: 40 came, no parent", INDEX, none, (p, n) -> p.addDisc(n, 0, 0, 1));
        refuseAll("5: 40 came, no parent", INDEX, none, (p, n) -> p.addTriangle(n, 0, 0, 4, 0, 0, 4));
        refuseAll("3: all three", INDEX, none, (p, n) -> p.addRectangle(n, 101, 0, 1, 1));
        refuseAll("4: all three", INDEX, none, (p, n) -> p.addDisc(n, 0, 0, 0));
        refuseAll("5: all three", INDEX, none, (p, n) -> p.addTriangle(n, 0, -101, 4, 0, 0, 4));
    }

    private static void treeCalls() {
        refuseAll("6: no such node", INDEX, NO_NODES, (p, n) -> p.remove(n));
        refuse("6: the root", STATE, p -> p.remove(0));
        refuseAll("7: no such node", INDEX, NO_NODES, (p, n) -> p.move(n, 0, 0));
        refuseAll("7: no such parent", INDEX, NO_NODES, (p, n) -> p.move(5, n, 0));
        refuseAll("7: no such parent, of the root", INDEX, NO_NODES, (p, n) -> p.move(0, n, 0));
        refuseAll("7: no such parent, nor place", INDEX, NO_NODES, (p, n) -> p.move(5, n, -1));
        refuseAll("7: no such node, to a shape", INDEX, NO_NODES, (p, n) -> p.move(n, SHAPE, 0));
        refuseAll("7: the root", STATE, new int[] {0, GROUP, SHAPE}, (p, n) -> p.move(0, n, 0));
        refuseAll("7: a shape as the parent", STATE, SHAPES, (p, n) -> p.move(10, n, 0));
        refuseAll("7: the node itself", STATE, new int[] {1, 4, 5, 6}, (p, n) -> p.move(n, n, 0));
        refuse("7: right below the node", STATE, p -> p.move(1, 4, 0));
        refuse("7: the empty group below the node", STATE, p -> p.move(6, 9, 0));
        int[] noPlacesOf3 = {-1, 3, 4, LOW, HIGH};
        int[] noPlacesBeside3 = {-1, 4, 5, LOW, HIGH};
        int[] noPlacesOf1 = {-1, 1, 2, LOW, HIGH};
        refuseAll("7: no such place in its own group", STATE, noPlacesOf3, (p, n) -> p.move(1, 0, n));
        refuseAll("7: no such place in another group", STATE, noPlacesBeside3, (p, n) -> p.move(9, 0, n));
        refuseAll("7: no such place in an empty group", STATE, noPlacesOf1, (p, n) -> p.move(10, 9, n));
        refuseAll("7: no such place for a child alone", STATE, noPlacesOf1, (p, n) -> p.move(5, 4, n));
    }

    // ---- paints

    private static void paintCalls() {
        refuseAll("11: no such node", INDEX, NO_NODES, (p, n) -> p.place(n, 1, 1));
        refuseAll("11: no such node, and bad", INDEX, NO_NODES, (p, n) -> p.place(n, 101, 1));
        refuseAll("12: no such node", INDEX, NO_NODES, (p, n) -> p.setFill(n, 1));
        refuseAll("12: no such node, and bad", INDEX, NO_NODES, (p, n) -> p.setFill(n, 256));
        refuseAll("13: no such node", INDEX, NO_NODES, (p, n) -> p.setOpacity(n, 1, true));
        refuseAll("13: no such node, and bad", INDEX, NO_NODES, (p, n) -> p.setOpacity(n, 9, true));
        refuseAll("14: no such node", INDEX, NO_NODES, (p, n) -> p.setClip(n, 1, 1, 1, 1));
        refuseAll("14: no such node, and bad", INDEX, NO_NODES, (p, n) -> p.setClip(n, 1, 1, -1, 1));
        refuseAll("15: no such node", INDEX, NO_NODES, (p, n) -> p.setMask(n, true));
        refuseAll("15: no group", STATE, SHAPES, (p, n) -> p.setMask(n, true));
        refuseAll("15: no group, off", STATE, SHAPES, (p, n) -> p.setMask(n, false));
        refuseAll("16: value", ARGUMENT, new int[] {-1, 256, LOW, HIGH}, (p, v) -> p.setGround(v));
        int[] noFills = {-2, 256, LOW, HIGH};
        int[] noOpacities = {-1, 9, LOW, HIGH};
        for (int node : new int[] {0, 3, 4, 6}) {
            String of = " of " + node;
            refuseAll("11: dx" + of, ARGUMENT, NO_PLACES, (p, v) -> p.place(node, v, 5));
            refuseAll("11: dy" + of, ARGUMENT, NO_PLACES, (p, v) -> p.place(node, 5, v));
            refuseAll("12: fill" + of, ARGUMENT, noFills, (p, v) -> p.setFill(node, v));
            refuseAll("13: opacity" + of, ARGUMENT, noOpacities, (p, v) -> p.setOpacity(node, v, node != 6));
            clipsOf(node);
        }
    }

    private static void clipsOf(int node) {
        int[] noLengths = {-1, 101, LOW, HIGH};
        String of = " of " + node;
        refuseAll("14: left" + of, ARGUMENT, NO_PLACES, (p, v) -> p.setClip(node, v, 5, 6, 7));
        refuseAll("14: top" + of, ARGUMENT, NO_PLACES, (p, v) -> p.setClip(node, 5, v, 6, 7));
        refuseAll("14: width" + of, ARGUMENT, noLengths, (p, v) -> p.setClip(node, 5, 6, v, 7));
        refuseAll("14: height" + of, ARGUMENT, noLengths, (p, v) -> p.setClip(node, 5, 6, 7, v));
        refuseAll("14: left, with width 0" + of, ARGUMENT, NO_PLACES, (p, v) -> p.setClip(node, v, 5, 0, 7));
        refuseAll("14: top, with width 0" + of, ARGUMENT, NO_PLACES, (p, v) -> p.setClip(node, 5, v, 0, 7));
        refuseAll("14: height, with width 0" + of, ARGUMENT, noLengths, (p, v) -> p.setClip(node, 5, 6, 0, v));
    }

    // ---- pixels, painting, and what is told of nodes

    private static void questions() {
        refuseAll("8: no such node", INDEX, NO_NODES, (p, n) -> p.node(n, 0));
        refuseAll("8: what", INDEX, new int[] {-1, 13, LOW, HIGH}, (p, v) -> p.node(4, v));
        refuseAll("8: neither", INDEX, NO_NODES, (p, n) -> p.node(n, 13));
        refuseAll("9: no such node", INDEX, NO_NODES, (p, n) -> p.child(n, 0));
        refuseAll("9: index", INDEX, new int[] {-1, 3, LOW, HIGH}, (p, v) -> p.child(1, v));
        refuseAll("9: of a shape", INDEX, SHAPES, (p, n) -> p.child(n, 0));
        refuseAll("9: of an empty group", INDEX, new int[] {-1, 0, 1}, (p, v) -> p.child(9, v));
        refuseAll("19: no such node", INDEX, NO_NODES, (p, n) -> p.shows(n, 0, 0));
        refuseAll("20: no such node", INDEX, NO_NODES, (p, n) -> p.extent(n, 0));
        refuseAll("20: what", INDEX, new int[] {-1, 5, LOW, HIGH}, (p, v) -> p.extent(4, v));
        refuseAll("21: tile", INDEX, new int[] {-1, 48, LOW, HIGH}, (p, v) -> p.changed(v));
        int[] noX = {-1, 64, LOW, HIGH};
        int[] noY = {-1, 48, LOW, HIGH};
        for (int good : new int[] {0, 47}) {
            refuseAll("17: x", INDEX, noX, (p, v) -> p.value(v, good));
            refuseAll("17: y", INDEX, noY, (p, v) -> p.value(good, v));
            refuseAll("18: x", INDEX, noX, (p, v) -> p.hit(v, good));
            refuseAll("18: y", INDEX, noY, (p, v) -> p.hit(good, v));
            refuseAll("19: x", INDEX, noX, (p, v) -> p.shows(0, v, good));
            refuseAll("19: y", INDEX, noY, (p, v) -> p.shows(0, good, v));
            refuseAll("23: x", INDEX, noX, (p, v) -> p.painted(v, good));
            refuseAll("23: y", INDEX, noY, (p, v) -> p.painted(good, v));
        }
    }

    // ---- other drawings

    private static void rootAlone() {
        int[] none = {-1, 1, 39, 40};
        refuseAll("2: no other node", INDEX, none, (p, n) -> p.addGroup(n));
        refuseAll("6: no other node", INDEX, none, (p, n) -> p.remove(n));
        refuse("6: the root alone", STATE, p -> p.remove(0));
        refuse("7: the root in itself", STATE, p -> p.move(0, 0, 0));
        refuseAll("7: the root elsewhere", INDEX, none, (p, n) -> p.move(0, n, 0));
        refuseAll("7: no other node", INDEX, none, (p, n) -> p.move(n, 0, 0));
        refuseAll("8: no other node", INDEX, none, (p, n) -> p.node(n, 0));
        refuseAll("9: no child", INDEX, new int[] {-1, 0, 1}, (p, v) -> p.child(0, v));
        refuseAll("11: no other node", INDEX, none, (p, n) -> p.place(n, 0, 0));
        refuseAll("12: no other node", INDEX, none, (p, n) -> p.setFill(n, 0));
        refuseAll("13: no other node", INDEX, none, (p, n) -> p.setOpacity(n, 0, true));
        refuseAll("14: no other node", INDEX, none, (p, n) -> p.setClip(n, 0, 0, 1, 1));
        refuseAll("15: no other node", INDEX, none, (p, n) -> p.setMask(n, true));
        refuseAll("19: no other node", INDEX, none, (p, n) -> p.shows(n, 0, 0));
        refuseAll("20: no other node", INDEX, none, (p, n) -> p.extent(n, 0));
    }

    private static void masksAndClips() {
        refuse("15: a mask that is a shape", STATE, p -> p.setMask(1, true));
        refuse("14: not in the place of a flat clip", ARGUMENT, p -> p.setClip(1, 0, 0, 10, 101));
        refuse("7: the mask into itself", STATE, p -> p.move(1, 1, 0));
        refuse("7: the mask to a second place", STATE, p -> p.move(1, 0, 1));
    }
}
