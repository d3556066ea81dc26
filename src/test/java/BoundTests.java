import java.math.BigInteger;

/** Promise by promise: the last values that are allowed, on both sides; the empty and the full case. */
public final class BoundTests extends Asking {
    private interface OnNumber {
        Object run(int number);
    }

    public static void main(String[] args) {
        newObject();
        addGroup();
        addRectangle();
        addDisc();
        addTriangle();
        remove();
        removeAllAndFull();
        moveWithinAGroup();
        moveToAnotherGroup();
        moveBetweenEnds();
        moveLooksAtTheTree();
        nodeTellsAll();
        nodeAfterChanges();
        child();
        count();
        place();
        setFill();
        setOpacity();
        setClip();
        setMask();
        setGround();
        value();
        hit();
        shows();
        extent();
        changed();
        paint();
        painted();
        mean();
        digestOfANewObject();
        digestWrapsAround();
        digestParts();
        digestOfOnePixel();
        questionsChangeNothing();
        end();
    }

    /** Each of the last values on the two sides is allowed, and the first ones beyond them are refused. */
    private static void bounds(String what, int least, int greatest, String exception, OnNumber call) {
        for (int number : new int[] {least, Math.min(least + 1, greatest), Math.max(greatest - 1, least), greatest}) {
            due(what + " " + number + " is allowed", false, () -> answerOf(() -> call.run(number)) instanceof String);
        }
        for (int number : new int[] {LOW, least - 1, greatest + 1, HIGH}) {
            due(what + " " + number, exception, () -> call.run(number));
        }
    }

    // ---- promise 1

    private static void newObject() {
        PaintLayers p = new PaintLayers();
        due("1: the root alone", 1, () -> p.count());
        due("1: the root", "0 -1 0 0 0 0 -1 255 8 8 0 0 0", () -> told(p, 0));
        due("1: no other node", INDEX, () -> p.node(1, 0));
        due("1: no child", INDEX, () -> p.child(0, 0));
        due("1: nothing is shown", "0 -1 -1 -1 -1", () -> extents(p, 0));
        int differing = 0;
        for (int tile = 0; tile < TILES; tile++) {
            differing += p.changed(tile);
        }
        int all = differing;
        due("1: painted, all tiles", 0, () -> all);
        due("1: nothing to be painted", 0, () -> p.paint());
        due("1: the mean", 0.0, () -> p.mean());
        due("1: the root has no clip", false, () -> p.setClip(0, 0, 0, 0, 0));
        due("1: nor a mask", false, () -> p.setMask(0, false));
        due("1: nor a fill", -1, () -> p.setFill(0, -1));
        due("1: nor an offset", 0, () -> p.place(0, 0, 0));
        due("1: its opacity", 8, () -> p.setOpacity(0, 8, false));
    }

    // ---- promises 2 to 5

    private static void addGroup() {
        PaintLayers p = new PaintLayers();
        due("2: parent 0", 1, () -> p.addGroup(0));
        due("2: the parent that came last", 2, () -> p.addGroup(1));
        due("2: a number that comes next is no parent", INDEX, () -> p.addGroup(3));
        due("2: above all others", 3, () -> p.addGroup(0));
        due("2: place", 1, () -> p.node(3, 2));
        p.move(1, 0, 1);
        due("2: above all others, moved or not", 4, () -> p.addGroup(0));
        due("2: children", "3 1 4", () -> children(p, 0));
        due("2: the new one", "0 0 2 0 0 0 -1 255 8 8 0 0 0", () -> told(p, 4));
    }

    private static void addRectangle() {
        int[] values = {0, 0, 1, 1};
        int[][] ranges = {{-100, 100}, {-100, 100}, {1, 100}, {1, 100}};
        String[] names = {"left", "top", "width", "height"};
        for (int i = 0; i < 4; i++) {
            int at = i;
            PaintLayers p = new PaintLayers();
            bounds("3: " + names[i], ranges[i][0], ranges[i][1], ARGUMENT, number -> {
                int[] v = values.clone();
                v[at] = number;
                return p.addRectangle(0, v[0], v[1], v[2], v[3]);
            });
            due("3: four came", 5, () -> p.count());
        }
        PaintLayers p = new PaintLayers();
        p.addRectangle(0, -100, -100, 100, 100);
        p.addRectangle(0, 100, 100, 1, 1);
        p.addRectangle(0, 0, 0, 100, 100);
        p.addRectangle(0, 63, 47, 1, 1);
        due("3: it ends at -1", 0, () -> p.extent(1, 0));
        p.place(1, 1, 1);
        due("3: it ends at 0", "1 0 0 0 0", () -> extents(p, 1));
        p.place(1, 64, 48);
        due("3: 100 long, at its end", "3072 0 63 0 47", () -> extents(p, 1));
        p.place(1, 63, 47);
        due("3: one less", "2961 0 62 0 46", () -> extents(p, 1));
        p.place(2, -37, -53);
        due("3: from 100 to the last pixel", "1 63 63 47 47", () -> extents(p, 2));
        p.place(2, -36, -53);
        due("3: one beyond it", 0, () -> p.extent(2, 0));
        due("3: 100 long, at its start", 3072, () -> p.extent(3, 0));
        due("3: the last pixel", "1 63 63 47 47", () -> extents(p, 4));
    }

    private static void addDisc() {
        int[] values = {0, 0, 1};
        int[][] ranges = {{-100, 100}, {-100, 100}, {1, 60}};
        String[] names = {"cx", "cy", "r"};
        for (int i = 0; i < 3; i++) {
            int at = i;
            PaintLayers p = new PaintLayers();
            bounds("4: " + names[i], ranges[i][0], ranges[i][1], ARGUMENT, number -> {
                int[] v = values.clone();
                v[at] = number;
                return p.addDisc(0, v[0], v[1], v[2]);
            });
            due("4: four came", 5, () -> p.count());
        }
        PaintLayers p = new PaintLayers();
        p.addDisc(0, -100, -100, 1);
        p.addDisc(0, 100, 100, 60);
        p.place(1, 99, 99);
        due("4: it ends at -1", 0, () -> p.extent(1, 0));
        p.place(1, 100, 100);
        due("4: a fourth of the least disc", "1 0 0 0 0", () -> extents(p, 1));
        due("4: too far for the greatest radius", 0, () -> p.extent(2, 0));
        p.place(2, -100, -100);
        due("4: a fourth of the greatest disc", "2532 0 59 0 47", () -> extents(p, 2));
    }

    private static void addTriangle() {
        int[] values = {0, 0, 4, 0, 0, 4};
        String[] names = {"ax", "ay", "bx", "by", "cx", "cy"};
        for (int i = 0; i < 6; i++) {
            int at = i;
            PaintLayers p = new PaintLayers();
            bounds("5: " + names[i], -100, 100, ARGUMENT, number -> {
                int[] v = values.clone();
                v[at] = number;
                return p.addTriangle(0, v[0], v[1], v[2], v[3], v[4], v[5]);
            });
            due("5: four came", 5, () -> p.count());
        }
        PaintLayers p = new PaintLayers();
        due("5: no corner need differ", 1, () -> p.addTriangle(0, 100, 100, 100, 100, 100, 100));
        due("5: the greatest one", 2, () -> p.addTriangle(0, -100, -100, 100, -100, -100, 100));
        p.place(2, 64, 1);
        due("5: its long side, where x + y is 65", "1991 0 63 0 47", () -> extents(p, 2));
        due("5: a middle on it", true, () -> p.shows(2, 63, 1));
        due("5: beyond it", false, () -> p.shows(2, 63, 2));
        p.place(2, 100, 100);
        due("5: all of the picture", 3072, () -> p.extent(2, 0));
    }

    // ---- promise 6

    private static void remove() {
        PaintLayers p = new PaintLayers();
        p.addGroup(0);
        p.addGroup(1);
        p.addDisc(2, 5, 5, 2);
        p.addRectangle(2, 0, 0, 1, 1);
        p.addRectangle(0, 60, 40, 2, 2);
        p.paint();
        due("6: an empty group after its children", "1 1 1", () -> p.remove(3) + " " + p.remove(4) + " " + p.remove(2));
        due("6: its parent is empty", 0, () -> p.node(1, 3));
        due("6: painted when it was there", 255, () -> p.painted(0, 0));
        due("6: not any more", 0, () -> p.value(0, 0));
        due("6: a tile to be painted", 1, () -> p.paint());
        due("6: twice", INDEX, () -> p.remove(2));
        due("6: the first child", 1, () -> p.remove(1));
        due("6: the places below it", 0, () -> p.node(5, 2));
        due("6: the last child", 1, () -> p.remove(5));
        due("6: nothing but the root", "0 -1 0 0 0 0 -1 255 8 8 0 0 0", () -> told(p, 0));
        due("6: the root stays", STATE, () -> p.remove(0));
        due("6: it is there", 1, () -> p.count());
    }

    private static void removeAllAndFull() {
        PaintLayers p = new PaintLayers();
        for (int group = 1; group < 40; group++) {
            p.addGroup(group % 2 == 0 ? group - 2 : Math.max(group - 2, 0));
        }
        due("6: the last number", 1, () -> p.remove(39));
        due("6: all odd ones that are left, one below the other", 19, () -> p.remove(1));
        due("6: gone from below", INDEX, () -> p.node(37, 0));
        due("6: the even ones are there", 20, () -> p.count());
        due("6: the first of them", "2", () -> children(p, 0));
        due("6: all but the first two of them", 17, () -> p.remove(6));
        due("6: the others", "0, 2, 4", () -> "0, " + children(p, 0) + ", " + children(p, 2));
        due("6: the others' end", 0, () -> p.node(4, 3));
        PaintLayers wide = new PaintLayers();
        fillUp(wide);
        due("6: one in the middle", 1, () -> wide.remove(20));
        due("6: the one before it", 18, () -> wide.node(19, 2));
        due("6: the one after it", 19, () -> wide.node(21, 2));
        due("6: the last one", 37, () -> wide.node(39, 2));
    }

    // ---- promise 7

    /** All moves in a row of four, each to each place: taken out and put in, so that it is at that place then. */
    private static void moveWithinAGroup() {
        for (int from = 0; from < 4; from++) {
            for (int to = 0; to < 4; to++) {
                PaintLayers p = new PaintLayers();
                StringBuilder left = new StringBuilder();
                for (int node = 1; node <= 4; node++) {
                    p.addRectangle(0, 0, 0, 1, 1);
                    left.append(node == from + 1 ? "" : node);
                }
                left.insert(to, from + 1);
                int moved = from + 1;
                int place = to;
                due("7: its place before", from, () -> p.move(moved, 0, place));
                due("7: its place then", to, () -> p.node(moved, 2));
                due("7: " + from + " to " + to, left.toString(), () -> children(p, 0).replace(" ", ""));
                due("7: the highest", left.charAt(3) - '0', () -> p.hit(0, 0));
            }
        }
        PaintLayers p = new PaintLayers();
        p.addDisc(0, 1, 1, 1);
        due("7: the only child to its place", 0, () -> p.move(1, 0, 0));
        due("7: there is no other", STATE, () -> p.move(1, 0, 1));
    }

    private static void moveToAnotherGroup() {
        for (int to = 0; to <= 3; to++) {
            PaintLayers p = new PaintLayers();
            p.addGroup(0);
            p.addGroup(0);
            for (int node = 3; node <= 5; node++) {
                p.addRectangle(1, 0, 0, 1, 1);
            }
            p.addGroup(2);
            p.addRectangle(2, 0, 0, 1, 1);
            p.addRectangle(2, 0, 0, 1, 1);
            StringBuilder all = new StringBuilder("345");
            all.insert(to, 7);
            int place = to;
            due("7: its place before, in the other group", 1, () -> p.move(7, 1, place));
            due("7: in another group", all.toString(), () -> children(p, 1).replace(" ", ""));
            due("7: left in its own", "6 8", () -> children(p, 2));
            due("7: the place of the one after it", 1, () -> p.node(8, 2));
            due("7: its parent", 1, () -> p.node(7, 1));
            due("7: to an empty group", to, () -> p.move(7, 6, 0));
            due("7: alone there", "7", () -> children(p, 6));
            due("7: left in the other", "3 4 5", () -> children(p, 1));
            due("7: one too many for the place", STATE, () -> p.move(8, 6, 2));
            due("7: after the last", 1, () -> p.move(8, 6, 1));
        }
    }

    private static void moveBetweenEnds() {
        PaintLayers p = new PaintLayers();
        p.addGroup(0);
        for (int node = 2; node < 39; node++) {
            p.addDisc(0, 10, 10, 3);
        }
        p.addGroup(1);
        due("7: from the greatest place", 37, () -> p.move(38, 0, 0));
        due("7: to the greatest place", 0, () -> p.move(38, 0, 37));
        due("7: one beyond it", STATE, () -> p.move(38, 0, 38));
        due("7: beyond it, from another group", 0, () -> p.move(39, 0, 38));
        due("7: the highest", 39, () -> p.child(0, 38));
        due("7: one beyond that", STATE, () -> p.move(39, 0, 39));
        for (int node = 2; node < 39; node++) {
            p.move(node, 39, 0);
        }
        due("7: all in another group, the last one first", 38, () -> p.child(39, 0));
        due("7: the first one last", 2, () -> p.child(39, 36));
        due("7: that group into another", 1, () -> p.move(39, 1, 0));
        due("7: count", 40, () -> p.count());
        due("7: hit", 2, () -> p.hit(10, 10));
    }

    /** "or the node itself or below it": up is allowed, down is not. */
    private static void moveLooksAtTheTree() {
        PaintLayers p = new PaintLayers();
        p.addGroup(0);
        p.addGroup(1);
        p.addGroup(2);
        p.addGroup(3);
        for (int top = 1; top <= 4; top++) {
            for (int below = top; below <= 4; below++) {
                int node = top;
                int parent = below;
                due("7: " + top + " into " + below, STATE, () -> p.move(node, parent, 0));
            }
        }
        due("7: far up", 0, () -> p.move(4, 1, 0));
        due("7: in it then", "4 2", () -> children(p, 1));
        due("7: the one that was above goes into it", 1, () -> p.move(2, 4, 0));
        due("7: not the other way round", STATE, () -> p.move(4, 2, 0));
        due("7: nor to what went with it", STATE, () -> p.move(4, 3, 0));
        due("7: to its own parent", 0, () -> p.move(4, 1, 0));
        p.setOpacity(1, 4, true);
        p.setFill(1, 9);
        p.place(1, 5, 5);
        due("7: inherited below the group", "0 2 0 0 0 0 -1 9 8 4 2 0 0", () -> told(p, 3));
        due("7: to the root", 0, () -> p.move(3, 0, 0));
        due("7: inherited no more", "0 0 0 0 0 0 -1 255 8 8 0 0 0", () -> told(p, 3));
    }

    // ---- promises 8 to 10

    private static void nodeTellsAll() {
        PaintLayers p = new PaintLayers();
        p.addGroup(0);
        p.addRectangle(1, 0, 0, 1, 1);
        p.addDisc(1, 0, 0, 1);
        p.addTriangle(1, 0, 0, 4, 0, 0, 4);
        bounds("8: what", 0, 12, INDEX, what -> p.node(3, what));
        bounds("8: node", 0, 4, INDEX, node -> p.node(node, 0));
        due("8: sorts", "0 0 1 2 3", () -> ofAll(p, 0));
        due("8: parents", "-1 0 1 1 1", () -> ofAll(p, 1));
        due("8: places", "0 0 0 1 2", () -> ofAll(p, 2));
        due("8: children", "1 3 0 0 0", () -> ofAll(p, 3));
        p.place(3, -100, 100);
        p.place(1, 3, 4);
        due("8: its offset, not the whole one", "-100 100", () -> p.node(3, 4) + " " + p.node(3, 5));
        p.setOpacity(1, 8, true);
        p.setOpacity(3, 8, true);
        due("8: both hidden", 1, () -> p.node(3, 10));
        due("8: a group above hidden", 2, () -> p.node(4, 10));
        due("8: the root is not", 0, () -> p.node(0, 10));
        p.setOpacity(0, 8, true);
        p.setOpacity(1, 8, false);
        due("8: the root hides it", 2, () -> p.node(4, 10));
        due("8: the root is hidden", 1, () -> p.node(0, 10));
    }

    /** One thing that node() tells, for nodes 0 to 4. */
    private static String ofAll(PaintLayers p, int what) {
        StringBuilder all = new StringBuilder();
        for (int node = 0; node <= 4; node++) {
            all.append(node == 0 ? "" : " ").append(p.node(node, what));
        }
        return all.toString();
    }

    private static void nodeAfterChanges() {
        PaintLayers p = new PaintLayers();
        fillUp(p);
        due("8: the last node", "0 0 38 0 0 0 -1 255 8 8 0 0 0", () -> told(p, 39));
        due("8: the root's children", 39, () -> p.node(0, 3));
        p.place(39, 100, -100);
        p.setFill(39, 255);
        p.setOpacity(39, 0, true);
        p.setClip(39, 0, 0, 1, 0);
        p.setMask(39, true);
        due("8: all of it", "0 0 38 0 100 -100 255 255 0 0 1 1 1", () -> told(p, 39));
        p.place(39, -100, 100);
        p.setFill(39, 0);
        p.setOpacity(39, 8, false);
        p.setClip(39, 0, 0, 0, 1);
        p.setMask(39, false);
        due("8: all of it the other way", "0 0 38 0 -100 100 0 0 8 8 0 0 0", () -> told(p, 39));
    }

    private static void child() {
        PaintLayers p = new PaintLayers();
        due("9: the root has none yet", INDEX, () -> p.child(0, 0));
        p.addGroup(0);
        bounds("9: index of one child", 0, 0, INDEX, index -> p.child(0, index));
        for (int node = 2; node < 39; node++) {
            p.addGroup(0);
        }
        bounds("9: index of 38 children", 0, 37, INDEX, index -> p.child(0, index));
        p.addGroup(0);
        bounds("9: index of 39 children", 0, 38, INDEX, index -> p.child(0, index));
        due("9: the first", 1, () -> p.child(0, 0));
        due("9: the last", 39, () -> p.child(0, 38));
        due("9: no such node", INDEX, () -> p.child(40, 0));
        p.move(38, 39, 0);
        due("9: the last then", 39, () -> p.child(0, 37));
        due("9: beyond it", INDEX, () -> p.child(0, 38));
        bounds("9: index in the last node", 0, 0, INDEX, index -> p.child(39, index));
        due("9: there", 38, () -> p.child(39, 0));
        p.remove(39);
        due("9: of the one gone", INDEX, () -> p.child(39, 0));
        due("9: of a group without any", INDEX, () -> p.child(5, 0));
        due("9: before the first", INDEX, () -> p.child(5, -1));
    }

    private static void count() {
        PaintLayers p = new PaintLayers();
        for (int number = 1; number < 40; number++) {
            int before = number;
            due("10: before the next", before, () -> p.count());
            p.addGroup(0);
        }
        due("10: all", 40, () -> p.count());
        answerOf(() -> p.addGroup(0));
        due("10: no more", 40, () -> p.count());
        for (int number = 39; number > 0; number--) {
            p.remove(number);
            int left = number;
            due("10: after one went", left, () -> p.count());
        }
        answerOf(() -> p.remove(0));
        due("10: no less", 1, () -> p.count());
    }

    // ---- promises 11 to 16

    private static void place() {
        PaintLayers p = new PaintLayers();
        p.addGroup(0);
        p.addRectangle(1, 0, 0, 64, 48);
        for (int node = 0; node <= 2; node++) {
            int placed = node;
            bounds("11: dx of " + node, -100, 100, ARGUMENT, number -> p.place(placed, number, 0));
            due("11: the last dx", 100, () -> p.place(placed, 7, 9));
            bounds("11: dy of " + node, -100, 100, ARGUMENT, number -> p.place(placed, 5, number));
            due("11: dx stays", 5, () -> p.node(placed, 4));
            due("11: the last dy", 100, () -> p.node(placed, 5));
            due("11: the offset in x before, not in y", 5, () -> p.place(placed, 0, 0));
        }
        p.place(2, 63, 47);
        due("11: the first pixel moved to the last", "1 63 63 47 47", () -> extents(p, 2));
        p.place(2, 64, 47);
        due("11: out to the right", 0, () -> p.extent(2, 0));
        p.place(2, -63, -47);
        due("11: the last pixel moved to the first", "1 0 0 0 0", () -> extents(p, 2));
        p.place(2, -63, -48);
        due("11: out at the top", 0, () -> p.extent(2, 0));
        p.place(0, 100, 100);
        p.place(1, -37, -52);
        due("11: all of it back by the groups' offsets", "3072 0 63 0 47", () -> extents(p, 2));
        due("11: no such node", INDEX, () -> p.place(3, 0, 0));
    }

    private static void setFill() {
        PaintLayers p = new PaintLayers();
        p.addGroup(0);
        p.addRectangle(1, 0, 0, 1, 1);
        for (int node = 0; node <= 2; node++) {
            int filled = node;
            bounds("12: fill of " + node, -1, 255, ARGUMENT, number -> p.setFill(filled, number));
            due("12: before", 255, () -> p.setFill(filled, -1));
            due("12: none before", -1, () -> p.setFill(filled, 0));
            due("12: 0 is one", 0, () -> p.node(filled, 6));
            due("12: 0 before", 0, () -> p.setFill(filled, 1));
            due("12: 1 before, not what it has from above", 1, () -> p.setFill(filled, -1));
            due("12: none", -1, () -> p.node(filled, 6));
        }
        p.setFill(2, 255);
        due("12: the greatest is painted", 255, () -> p.value(0, 0));
        p.setGround(100);
        p.setFill(2, 0);
        due("12: the least is painted", 0, () -> p.value(0, 0));
    }

    private static void setOpacity() {
        PaintLayers p = new PaintLayers();
        p.addGroup(0);
        p.addRectangle(1, 0, 0, 1, 1);
        for (int node = 0; node <= 2; node++) {
            int set = node;
            bounds("13: opacity of " + node, 0, 8, ARGUMENT, number -> p.setOpacity(set, number, false));
            due("13: before", 8, () -> p.setOpacity(set, 0, false));
            due("13: 0 before", 0, () -> p.setOpacity(set, 8, true));
            due("13: hidden with the same opacity", 1, () -> p.node(set, 10));
            due("13: hidden stays hidden when it is told so", 8, () -> p.setOpacity(set, 1, true));
            due("13: hidden", 1, () -> p.node(set, 10));
            due("13: its opacity though it is hidden", 1, () -> p.node(set, 8));
            due("13: not hidden", 1, () -> p.setOpacity(set, 8, false));
            due("13: seen", 0, () -> p.node(set, 10));
        }
        due("13: full strength", 255, () -> p.value(0, 0));
        p.setOpacity(2, 1, false);
        due("13: the least strength", 31, () -> p.value(0, 0));
        p.setOpacity(2, 0, false);
        due("13: none", 0, () -> p.value(0, 0));
        due("13: none is hit", -1, () -> p.hit(0, 0));
        due("13: though it is shown", true, () -> p.shows(2, 0, 0));
    }

    private static void setClip() {
        PaintLayers p = new PaintLayers();
        p.addGroup(0);
        p.addRectangle(1, 0, 0, 64, 48);
        for (int node = 0; node <= 2; node++) {
            int clipped = node;
            bounds("14: left of " + node, -100, 100, ARGUMENT, number -> p.setClip(clipped, number, 0, 1, 1));
            bounds("14: top of " + node, -100, 100, ARGUMENT, number -> p.setClip(clipped, 0, number, 1, 1));
            bounds("14: width of " + node, 0, 100, ARGUMENT, number -> p.setClip(clipped, 0, 0, number, 1));
            bounds("14: height of " + node, 0, 100, ARGUMENT, number -> p.setClip(clipped, 0, 0, 1, number));
            due("14: one before", true, () -> p.setClip(clipped, 0, 0, 0, 0));
            due("14: none", 0, () -> p.node(clipped, 11));
            due("14: none before", false, () -> p.setClip(clipped, 0, 0, 0, 100));
            due("14: none still", false, () -> p.setClip(clipped, 100, -100, 1, 1));
            due("14: one in the place of one", true, () -> p.setClip(clipped, 63, 47, 1, 1));
            due("14: the last pixel", "1 63 63 47 47", () -> extents(p, 2));
            due("14: from -100, 100 long", true, () -> p.setClip(clipped, -100, -100, 100, 100));
            due("14: ends before the picture", 0, () -> p.extent(2, 0));
            due("14: from -99", true, () -> p.setClip(clipped, -99, -99, 100, 100));
            due("14: the first pixel", "1 0 0 0 0", () -> extents(p, 2));
            due("14: all of the picture", true, () -> p.setClip(clipped, 0, 0, 64, 48));
            due("14: nothing is clipped", 3072, () -> p.extent(2, 0));
            due("14: one column and one row less", true, () -> p.setClip(clipped, 0, 0, 63, 47));
            due("14: clipped", "2961 0 62 0 46", () -> extents(p, 2));
            due("14: height 0", true, () -> p.setClip(clipped, 0, 0, 1, 0));
            due("14: it is a clip", 1, () -> p.node(clipped, 11));
            due("14: without a pixel", 0, () -> p.extent(2, 0));
            due("14: width 0", true, () -> p.setClip(clipped, 0, 0, 0, 1));
            due("14: none is left", 3072, () -> p.extent(2, 0));
        }
        due("14: no such node", INDEX, () -> p.setClip(3, 0, 0, 0, 0));
    }

    private static void setMask() {
        PaintLayers p = new PaintLayers();
        p.addGroup(0);
        p.addRectangle(1, 0, 0, 1, 1);
        p.addDisc(1, 0, 0, 1);
        p.addTriangle(1, 0, 0, 4, 0, 0, 4);
        for (int group = 0; group <= 1; group++) {
            int set = group;
            due("15: not at first", false, () -> p.setMask(set, false));
            due("15: not still", false, () -> p.setMask(set, true));
            due("15: masked", true, () -> p.setMask(set, true));
            due("15: masked still", 1, () -> p.node(set, 12));
            due("15: masked before", true, () -> p.setMask(set, false));
            due("15: not any more", 0, () -> p.node(set, 12));
        }
        for (int shape = 2; shape <= 4; shape++) {
            int set = shape;
            due("15: a shape, on", STATE, () -> p.setMask(set, true));
            due("15: a shape, off", STATE, () -> p.setMask(set, false));
            due("15: it is not masked", 0, () -> p.node(set, 12));
        }
        due("15: no such node", INDEX, () -> p.setMask(5, false));
        p.setMask(1, true);
        p.move(4, 0, 0);
        p.move(1, 0, 0);
        due("15: stays when the group is moved", 1, () -> p.node(1, 12));
    }

    private static void setGround() {
        PaintLayers p = new PaintLayers();
        bounds("16: value", 0, 255, ARGUMENT, number -> p.setGround(number));
        due("16: the greatest before", 255, () -> p.setGround(0));
        due("16: the least before", 0, () -> p.setGround(255));
        due("16: all pixels", 255, () -> p.value(63, 47));
        due("16: not painted yet", 0, () -> p.painted(63, 47));
        due("16: all tiles", 48, () -> p.paint());
        p.setGround(0);
        due("16: before it is painted", 255.0, () -> p.mean());
    }

    // ---- promises 17 to 20

    private static void value() {
        PaintLayers p = new PaintLayers();
        bounds("17: x", 0, 63, INDEX, x -> p.value(x, 47));
        bounds("17: y", 0, 47, INDEX, y -> p.value(63, y));
        due("17: without a shape", 0, () -> p.value(0, 0));
        p.addRectangle(0, 63, 47, 1, 1);
        due("17: as the drawing is now", 255, () -> p.value(63, 47));
        due("17: the one before it", 0, () -> p.value(62, 47));
        due("17: the one above it", 0, () -> p.value(63, 46));
        due("17: not as it was painted", 0, () -> p.painted(63, 47));
    }

    private static void hit() {
        PaintLayers p = new PaintLayers();
        bounds("18: x", 0, 63, INDEX, x -> p.hit(x, 47));
        bounds("18: y", 0, 47, INDEX, y -> p.hit(63, y));
        due("18: without a shape", -1, () -> p.hit(63, 47));
        for (int node = 1; node < 40; node++) {
            p.addRectangle(0, 0, 0, node, 1);
        }
        due("18: the highest of 39", 39, () -> p.hit(0, 0));
        due("18: at its end", 39, () -> p.hit(38, 0));
        due("18: beyond it", -1, () -> p.hit(39, 0));
        due("18: below it", -1, () -> p.hit(0, 1));
        for (int node = 39; node > 1; node--) {
            p.setOpacity(node, 0, false);
            int next = node - 1;
            due("18: the next with strength", next, () -> p.hit(0, 0));
        }
        p.setOpacity(1, 1, false);
        p.setOpacity(0, 7, false);
        due("18: strength 0 by the root", -1, () -> p.hit(0, 0));
        p.setOpacity(0, 8, false);
        due("18: strength 1", 1, () -> p.hit(0, 0));
        PaintLayers groups = new PaintLayers();
        groups.addGroup(0);
        groups.setClip(0, 0, 0, 64, 48);
        due("18: a group is no shape", -1, () -> groups.hit(0, 0));
    }

    private static void shows() {
        PaintLayers p = new PaintLayers();
        p.addGroup(0);
        p.addRectangle(1, 63, 47, 1, 1);
        bounds("19: x", 0, 63, INDEX, x -> p.shows(0, x, 47));
        bounds("19: y", 0, 47, INDEX, y -> p.shows(0, 63, y));
        bounds("19: node", 0, 2, INDEX, node -> p.shows(node, 63, 47));
        for (int node = 0; node <= 2; node++) {
            int asked = node;
            due("19: the last pixel", true, () -> p.shows(asked, 63, 47));
            due("19: the one before", false, () -> p.shows(asked, 62, 47));
            due("19: the one above", false, () -> p.shows(asked, 63, 46));
        }
        p.setOpacity(2, 0, false);
        due("19: without strength", true, () -> p.shows(1, 63, 47));
        p.addGroup(1);
        due("19: a group without a shape", false, () -> p.shows(3, 63, 47));
        p.remove(2);
        due("19: no shape any more", false, () -> p.shows(0, 63, 47));
        due("19: no such node any more", INDEX, () -> p.shows(2, 63, 47));
    }

    private static void extent() {
        PaintLayers p = new PaintLayers();
        p.addGroup(0);
        p.addRectangle(1, 0, 0, 1, 1);
        bounds("20: what", 0, 4, INDEX, what -> p.extent(0, what));
        bounds("20: node", 0, 2, INDEX, node -> p.extent(node, 0));
        due("20: the first pixel", "1 0 0 0 0", () -> extents(p, 2));
        p.addRectangle(1, 63, 47, 1, 1);
        due("20: the last pixel", "1 63 63 47 47", () -> extents(p, 3));
        due("20: both", "2 0 63 0 47", () -> extents(p, 1));
        p.addRectangle(0, 63, 0, 1, 48);
        due("20: the last column", "48 63 63 0 47", () -> extents(p, 4));
        p.addRectangle(0, 0, 47, 64, 1);
        due("20: the last row", "64 0 63 47 47", () -> extents(p, 5));
        due("20: pixels of several count once", "112 0 63 0 47", () -> extents(p, 0));
        p.setOpacity(0, 0, false);
        due("20: without strength", 112, () -> p.extent(0, 0));
        p.setOpacity(0, 8, true);
        due("20: hidden", "0 -1 -1 -1 -1", () -> extents(p, 0));
        p.setOpacity(0, 8, false);
        p.addRectangle(0, 0, 0, 64, 48);
        due("20: all", "3072 0 63 0 47", () -> extents(p, 0));
    }

    // ---- promises 21 to 25

    private static void changed() {
        PaintLayers p = new PaintLayers();
        bounds("21: tile", 0, 47, INDEX, tile -> p.changed(tile));
        p.addRectangle(0, 0, 0, 1, 1);
        due("21: one pixel", 1, () -> p.changed(0));
        p.setFill(1, 1);
        due("21: by 1", 1, () -> p.changed(0));
        p.setFill(1, 0);
        due("21: by none", 0, () -> p.changed(0));
        p.setGround(1);
        due("21: all but one", 63, () -> p.changed(0));
        p.setFill(1, 255);
        due("21: all", 64, () -> p.changed(0));
        due("21: all of the last tile", 64, () -> p.changed(47));
        p.paint();
        due("21: none after it is painted", 0, () -> p.changed(0));
        p.setGround(0);
        p.setGround(1);
        due("21: changed and changed back", 0, () -> p.changed(47));
        p.setOpacity(1, 8, true);
        due("21: hidden", 1, () -> p.changed(0));
    }

    private static void paint() {
        PaintLayers p = new PaintLayers();
        due("22: no tile", 0, () -> p.paint());
        p.addRectangle(0, 7, 7, 1, 1);
        due("22: one pixel, one tile", 1, () -> p.paint());
        p.setClip(1, 0, 0, 64, 48);
        due("22: changed, but no pixel", 0, () -> p.paint());
        p.addRectangle(0, 7, 7, 2, 2);
        due("22: one pixel in each of three tiles more", 3, () -> p.paint());
        p.remove(1);
        due("22: nothing, as another lies there", 0, () -> p.paint());
        p.remove(2);
        due("22: four tiles without it", 4, () -> p.paint());
        p.addRectangle(0, 0, 47, 64, 1);
        due("22: the last row of tiles", 8, () -> p.paint());
        p.addRectangle(0, 63, 0, 1, 48);
        due("22: the last column of tiles, with the one that was painted for the row", 6, () -> p.paint());
        p.setGround(255);
        due("22: all tiles", 48, () -> p.paint());
        due("22: all are painted", 255.0, () -> p.mean());
        due("22: no tile", 0, () -> p.paint());
    }

    private static void painted() {
        PaintLayers p = new PaintLayers();
        bounds("23: x", 0, 63, INDEX, x -> p.painted(x, 47));
        bounds("23: y", 0, 47, INDEX, y -> p.painted(63, y));
        p.addRectangle(0, 63, 47, 1, 1);
        due("23: at first", 0, () -> p.painted(63, 47));
        p.paint();
        due("23: the last pixel", 255, () -> p.painted(63, 47));
        due("23: the one before", 0, () -> p.painted(62, 47));
        due("23: the one above", 0, () -> p.painted(63, 46));
        p.remove(1);
        due("23: as it was painted, though the shape is gone", 255, () -> p.painted(63, 47));
        p.paint();
        due("23: painted again", 0, () -> p.painted(63, 47));
    }

    private static void mean() {
        PaintLayers p = new PaintLayers();
        p.addRectangle(0, 0, 0, 1, 1);
        p.setFill(1, 1);
        due("24: the least value, not painted", 0.0, () -> p.mean());
        p.paint();
        due("24: the least value", 1.0 / 3072.0, () -> p.mean());
        p.setGround(255);
        due("24: as it was painted last", 1.0 / 3072.0, () -> p.mean());
        p.paint();
        due("24: nearly the greatest", (255.0 * 3071.0 + 1.0) / 3072.0, () -> p.mean());
        p.remove(1);
        p.paint();
        due("24: the greatest", 255.0, () -> p.mean());
        p.addRectangle(0, 0, 0, 64, 1);
        p.setFill(2, 0);
        p.paint();
        due("24: without a row", 255.0 * 3008.0 / 3072.0, () -> p.mean());
    }

    /** The document's sum, added up in numbers without an end and cut to 64 bits at the end alone. */
    private static long digestOf(PaintLayers p, int ground) {
        BigInteger d = BigInteger.valueOf(359);
        d = with(with(d, p.count()), ground);
        for (int n = 0; n < 40; n++) {
            int number = n;
            if (answerOf(() -> p.node(number, 0)).equals(INDEX)) {
                continue;
            }
            d = with(d, n);
            for (int what = 0; what <= 12; what++) {
                d = with(d, p.node(n, what));
            }
        }
        for (int y = 0; y < HEIGHT; y++) {
            for (int x = 0; x < WIDTH; x++) {
                d = with(d, p.painted(x, y));
            }
        }
        int tiles = 0;
        for (int tile = 0; tile < TILES; tile++) {
            tiles += p.changed(tile) > 0 ? 1 : 0;
        }
        return with(d, tiles).longValue();
    }

    private static BigInteger with(BigInteger d, int x) {
        return d.multiply(BigInteger.valueOf(31)).add(BigInteger.valueOf(x));
    }

    private static void dueDigest(String what, PaintLayers p, int ground) {
        long want = digestOf(p, ground);
        due("25: " + what, want, () -> p.digest());
        due("25: " + what + ", again", want, () -> p.digest());
    }

    private static void digestOfANewObject() {
        PaintLayers p = new PaintLayers();
        dueDigest("a new object", p, 0);
        due("25: objects alike", p.digest(), () -> new PaintLayers().digest());
    }

    private static void digestWrapsAround() {
        PaintLayers p = new PaintLayers();
        p.setGround(255);
        p.paint();
        dueDigest("all pixels at their greatest", p, 255);
        p.setGround(0);
        dueDigest("all tiles to be painted", p, 0);
        fillUp(p);
        dueDigest("all nodes", p, 0);
        for (int node = 0; node < 40; node++) {
            p.place(node, 100, -100);
            p.setFill(node, 255);
            p.setOpacity(node, 7, true);
        }
        dueDigest("all nodes with all that they can have", p, 0);
    }

    private static void digestParts() {
        PaintLayers p = new PaintLayers();
        p.addRectangle(0, 0, 0, 9, 9);
        p.addGroup(0);
        p.addDisc(2, 40, 30, 8);
        p.addTriangle(2, 0, 0, 20, 0, 0, 20);
        dueDigest("not painted", p, 0);
        p.paint();
        dueDigest("painted", p, 0);
        p.move(4, 0, 0);
        p.move(1, 2, 0);
        dueDigest("numbers ascending, not in the order of the tree", p, 0);
        p.remove(3);
        dueDigest("without one that is gone", p, 0);
        p.place(1, 60, 40);
        dueDigest("some tiles to be painted", p, 0);
        p.setClip(1, 0, 0, 5, 5);
        p.setMask(2, true);
        p.setOpacity(4, 0, true);
        dueDigest("with clip, mask, and hidden", p, 0);
        long before = p.digest();
        p.place(1, 60, 39);
        due("25: another offset alone", false, () -> p.digest() == before);
        p.place(1, 60, 40);
        due("25: the same again", before, () -> p.digest());
    }

    /** "the number of tiles that would be painted": one, though it has changed in a corner of the picture alone. */
    private static void digestOfOnePixel() {
        int[][] corners = {{0, 0}, {63, 0}, {0, 47}, {63, 47}};
        for (int[] c : corners) {
            String at = " at " + c[0] + " " + c[1];
            PaintLayers p = new PaintLayers();
            p.addRectangle(0, c[0], c[1], 1, 1);
            dueDigest("one pixel changed" + at, p, 0);
            long before = p.digest();
            p.setFill(1, 0);
            p.setFill(1, -1);
            due("25: changed and changed back" + at, before, () -> p.digest());
            due("22: one pixel" + at, 1, () -> p.paint());
            dueDigest("one pixel painted" + at, p, 0);
            due("24: one pixel" + at, 255.0 / 3072.0, () -> p.mean());
            p.remove(1);
            due("22: one pixel less" + at, 1, () -> p.paint());
        }
    }

    /** What asks only leaves all as it is: what was told is told again after all other questions. */
    private static void questionsChangeNothing() {
        PaintLayers p = new PaintLayers();
        p.addGroup(0);
        p.addDisc(1, 20, 20, 9);
        p.addRectangle(1, 0, 0, 50, 30);
        p.setMask(1, true);
        p.setGround(8);
        long before = p.digest();
        due("17: asked", 255, () -> p.value(20, 20));
        due("18: asked", 3, () -> p.hit(20, 20));
        due("19: asked", true, () -> p.shows(1, 20, 20));
        due("20: asked", 256, () -> p.extent(1, 0));
        due("21: asked", 64, () -> p.changed(0));
        due("23: asked", 0, () -> p.painted(20, 20));
        due("24: asked", 0.0, () -> p.mean());
        due("8: asked", 2, () -> p.node(1, 3));
        due("9: asked", 2, () -> p.child(1, 0));
        due("10: asked", 4, () -> p.count());
        due("25: as before", before, () -> p.digest());
        due("22: all tiles", 48, () -> p.paint());
    }
}
