/** One test or more for each promise of the document: ordinary inputs, edges, and wrong inputs. */
public final class PromiseTests extends Asking {
    public static void main(String[] args) {
        newObject();
        addGroup();
        addRectangle();
        addDisc();
        addTriangle();
        remove();
        move();
        node();
        child();
        count();
        place();
        setFill();
        setOpacity();
        setClip();
        setMask();
        setGround();
        value();
        hit();
        shows();
        extent();
        changed();
        paint();
        painted();
        mean();
        digest();
        end();
    }

    private static void newObject() {
        PaintLayers p = new PaintLayers();
        due("1: count", 1, () -> p.count());
        due("1: the root", "0 -1 0 0 0 0 -1 255 8 8 0 0 0", () -> told(p, 0));
        due("1: value", 0, () -> p.value(63, 47));
        due("1: painted", 0, () -> p.painted(0, 0));
        due("1: changed", 0, () -> p.changed(47));
        due("1: paint", 0, () -> p.paint());
        due("1: ground", 0, () -> p.setGround(0));
        PaintLayers other = new PaintLayers();
        other.addGroup(0);
        due("1: objects share nothing", 1, () -> p.count());
    }

    private static void addGroup() {
        PaintLayers p = new PaintLayers();
        due("2: the first", 1, () -> p.addGroup(0));
        due("2: within it", 2, () -> p.addGroup(1));
        due("2: above the others", 3, () -> p.addGroup(0));
        due("2: children", "1 3", () -> children(p, 0));
        due("2: a new group", "0 1 0 0 0 0 -1 255 8 8 0 0 0", () -> told(p, 2));
        p.addDisc(0, 1, 1, 1);
        refused(p, "2: parent -1", INDEX, () -> p.addGroup(-1));
        refused(p, "2: parent 5", INDEX, () -> p.addGroup(5));
        refused(p, "2: parent 40", INDEX, () -> p.addGroup(40));
        refused(p, "2: parent least", INDEX, () -> p.addGroup(LOW));
        refused(p, "2: parent greatest", INDEX, () -> p.addGroup(HIGH));
        refused(p, "2: parent a shape", STATE, () -> p.addGroup(4));
        due("2: refused ones take no number", 5, () -> p.addGroup(0));
        p.remove(5);
        refused(p, "2: parent gone", INDEX, () -> p.addGroup(5));
        due("2: no number again", 6, () -> p.addGroup(0));
        for (int i = 7; i < 39; i++) {
            p.addGroup(0);
        }
        due("2: the last", 39, () -> p.addGroup(0));
        refused(p, "2: 40 came", STATE, () -> p.addGroup(0));
        refused(p, "2: 40 came, no parent", INDEX, () -> p.addGroup(40));
        p.remove(1);
        refused(p, "2: 40 came, though some are gone", STATE, () -> p.addGroup(0));
    }

    private static void addRectangle() {
        PaintLayers p = new PaintLayers();
        due("3: the first", 1, () -> p.addRectangle(0, 5, 6, 3, 2));
        due("3: its sort", "1 0 0 0 0 0 -1 255 8 8 0 0 0", () -> told(p, 1));
        due("3: its pixels", "6 5 7 6 7", () -> extents(p, 1));
        due("3: least edges", 2, () -> p.addRectangle(0, -100, -100, 100, 100));
        due("3: out of the picture", "0 -1 -1 -1 -1", () -> extents(p, 2));
        due("3: greatest edges", 3, () -> p.addRectangle(0, 100, 100, 1, 1));
        due("3: all of the picture", 4, () -> p.addRectangle(0, -1, -1, 65, 49));
        due("3: all its pixels", "3072 0 63 0 47", () -> extents(p, 4));
        due("3: a corner", 5, () -> p.addRectangle(0, 63, 47, 100, 100));
        due("3: the corner's pixel", "1 63 63 47 47", () -> extents(p, 5));
        due("3: children", "1 2 3 4 5", () -> children(p, 0));
        due("3: ends where the picture begins", 6, () -> p.addRectangle(0, -5, 0, 5, 48));
        due("3: none of its pixels", "0 -1 -1 -1 -1", () -> extents(p, 6));
        due("3: begins where the picture ends", 7, () -> p.addRectangle(0, 0, 48, 64, 1));
        due("3: none of its pixels", "0 -1 -1 -1 -1", () -> extents(p, 7));
        due("3: one column more", 8, () -> p.addRectangle(0, -5, 0, 6, 48));
        due("3: its first column", "48 0 0 0 47", () -> extents(p, 8));
        int[][] bad = {{-101, 0, 1, 1}, {101, 0, 1, 1}, {0, -101, 1, 1}, {0, 101, 1, 1}, {0, 0, 0, 1},
            {0, 0, 101, 1}, {0, 0, 1, 0}, {0, 0, 1, 101}, {LOW, HIGH, 1, 1}, {0, 0, HIGH, LOW}};
        for (int[] b : bad) {
            refused(p, "3: " + b[0] + " " + b[1] + " " + b[2] + " " + b[3], ARGUMENT,
                    () -> p.addRectangle(0, b[0], b[1], b[2], b[3]));
            refused(p, "3: a bad one on a shape", ARGUMENT, () -> p.addRectangle(1, b[0], b[1], b[2], b[3]));
            refused(p, "3: a bad one on nothing", INDEX, () -> p.addRectangle(9, b[0], b[1], b[2], b[3]));
        }
        refused(p, "3: parent -1", INDEX, () -> p.addRectangle(-1, 0, 0, 1, 1));
        refused(p, "3: parent a shape", STATE, () -> p.addRectangle(1, 0, 0, 1, 1));
        due("3: refused ones take no number", 9, () -> p.addRectangle(0, 0, 0, 1, 1));
        fillUp(p);
        refused(p, "3: 40 came", STATE, () -> p.addRectangle(0, 0, 0, 1, 1));
        refused(p, "3: 40 came, a bad one", ARGUMENT, () -> p.addRectangle(0, 0, 0, 0, 1));
    }

    private static void addDisc() {
        PaintLayers p = new PaintLayers();
        due("4: the first", 1, () -> p.addDisc(0, 10, 10, 1));
        due("4: its sort", "2 0 0 0 0 0 -1 255 8 8 0 0 0", () -> told(p, 1));
        due("4: radius 1", "4 9 10 9 10", () -> extents(p, 1));
        p.addDisc(0, 30, 20, 2);
        due("4: radius 2, without its corners", "12 28 31 18 21", () -> extents(p, 2));
        due("4: no corner", false, () -> p.shows(2, 28, 18));
        due("4: beside the corner", true, () -> p.shows(2, 29, 18));
        p.addDisc(0, 32, 24, 60);
        due("4: greatest radius", "3072 0 63 0 47", () -> extents(p, 3));
        p.addDisc(0, 32, 24, 5);
        due("4: radius 5", "80 27 36 19 28", () -> extents(p, 4));
        p.addDisc(0, -100, 100, 60);
        due("4: out of the picture", "0 -1 -1 -1 -1", () -> extents(p, 5));
        due("4: children", "1 2 3 4 5", () -> children(p, 0));
        int[][] bad = {{-101, 0, 1}, {101, 0, 1}, {0, -101, 1}, {0, 101, 1}, {0, 0, 0}, {0, 0, 61},
            {LOW, 0, 1}, {0, HIGH, 1}, {0, 0, LOW}, {0, 0, HIGH}};
        for (int[] b : bad) {
            refused(p, "4: " + b[0] + " " + b[1] + " " + b[2], ARGUMENT, () -> p.addDisc(0, b[0], b[1], b[2]));
            refused(p, "4: a bad one on a shape", ARGUMENT, () -> p.addDisc(1, b[0], b[1], b[2]));
            refused(p, "4: a bad one on nothing", INDEX, () -> p.addDisc(40, b[0], b[1], b[2]));
        }
        refused(p, "4: parent a shape", STATE, () -> p.addDisc(1, 0, 0, 1));
        refused(p, "4: parent 6", INDEX, () -> p.addDisc(6, 0, 0, 1));
        due("4: refused ones take no number", 6, () -> p.addDisc(0, 100, -100, 60));
        fillUp(p);
        refused(p, "4: 40 came", STATE, () -> p.addDisc(0, 0, 0, 1));
        refused(p, "4: 40 came, a bad one", ARGUMENT, () -> p.addDisc(0, 0, 0, 0));
    }

    private static void addTriangle() {
        PaintLayers p = new PaintLayers();
        due("5: the first", 1, () -> p.addTriangle(0, 0, 0, 4, 0, 0, 4));
        due("5: its sort", "3 0 0 0 0 0 -1 255 8 8 0 0 0", () -> told(p, 1));
        due("5: middles on the long side count", "10 0 3 0 3", () -> extents(p, 1));
        due("5: on the long side", true, () -> p.shows(1, 3, 0));
        due("5: beyond it", false, () -> p.shows(1, 3, 1));
        p.addTriangle(0, 0, 4, 4, 0, 0, 0);
        due("5: turned the other way", "10 0 3 0 3", () -> extents(p, 2));
        int[][] corners = {{0, 0}, {4, 0}, {0, 4}};
        for (int first = 0; first < 3; first++) {
            for (int step = 1; step <= 2; step++) {
                int[] a = corners[first];
                int[] b = corners[(first + step) % 3];
                int[] c = corners[(first + step + step) % 3];
                PaintLayers other = new PaintLayers();
                other.addTriangle(0, a[0], a[1], b[0], b[1], c[0], c[1]);
                due("5: the long side anywhere", "10 0 3 0 3", () -> extents(other, 1));
                due("5: a middle on it", true, () -> other.shows(1, 1, 2));
            }
        }
        p.addTriangle(0, 0, 0, 10, 10, 20, 20);
        due("5: a flat one, with middles on its line", "0 -1 -1 -1 -1", () -> extents(p, 3));
        p.addTriangle(0, 5, 5, 5, 5, 20, 9);
        due("5: two corners in one place", "0 -1 -1 -1 -1", () -> extents(p, 4));
        p.addTriangle(0, 7, 7, 7, 7, 7, 7);
        due("5: three corners in one place", "0 -1 -1 -1 -1", () -> extents(p, 5));
        p.addTriangle(0, -100, -100, 100, -100, 0, 100);
        due("5: greatest coordinates", true, () -> p.shows(6, 20, 40));
        due("5: children", "1 2 3 4 5 6", () -> children(p, 0));
        for (int i = 0; i < 6; i++) {
            for (int value : new int[] {-101, 101, LOW, HIGH}) {
                int[] b = {0, 0, 4, 0, 0, 4};
                b[i] = value;
                refused(p, "5: coordinate " + i + " " + value, ARGUMENT,
                        () -> p.addTriangle(0, b[0], b[1], b[2], b[3], b[4], b[5]));
                refused(p, "5: a bad one on a shape", ARGUMENT,
                        () -> p.addTriangle(1, b[0], b[1], b[2], b[3], b[4], b[5]));
                refused(p, "5: a bad one on nothing", INDEX,
                        () -> p.addTriangle(-1, b[0], b[1], b[2], b[3], b[4], b[5]));
            }
        }
        refused(p, "5: parent a shape", STATE, () -> p.addTriangle(1, 0, 0, 4, 0, 0, 4));
        refused(p, "5: parent 7", INDEX, () -> p.addTriangle(7, 0, 0, 4, 0, 0, 4));
        due("5: refused ones take no number", 7, () -> p.addTriangle(0, 0, 0, 4, 0, 0, 4));
        fillUp(p);
        refused(p, "5: 40 came", STATE, () -> p.addTriangle(0, 0, 0, 4, 0, 0, 4));
        refused(p, "5: 40 came, a bad one", ARGUMENT, () -> p.addTriangle(0, 0, 0, 4, 0, 0, 101));
    }

    private static void remove() {
        PaintLayers p = new PaintLayers();
        p.addGroup(0);
        p.addGroup(1);
        p.addRectangle(2, 0, 0, 5, 5);
        p.addRectangle(0, 3, 3, 5, 5);
        p.addRectangle(1, 0, 0, 2, 2);
        refused(p, "6: the root", STATE, () -> p.remove(0));
        refused(p, "6: -1", INDEX, () -> p.remove(-1));
        refused(p, "6: 6", INDEX, () -> p.remove(6));
        refused(p, "6: 40", INDEX, () -> p.remove(40));
        due("6: one", 1, () -> p.remove(5));
        due("6: its group has one less", "2", () -> children(p, 1));
        refused(p, "6: gone", INDEX, () -> p.remove(5));
        due("6: with all below", 3, () -> p.remove(1));
        due("6: below is gone", INDEX, () -> p.node(3, 0));
        due("6: between is gone", INDEX, () -> p.node(2, 0));
        due("6: the others are left", "4", () -> children(p, 0));
        due("6: its place", 0, () -> p.node(4, 2));
        due("6: not painted any more", 0, () -> p.value(0, 0));
        due("6: count", 2, () -> p.count());
        due("6: the number is not given again", 6, () -> p.addGroup(0));
        p.addDisc(6, 5, 5, 3);
        p.setMask(6, true);
        p.addRectangle(6, 0, 0, 64, 48);
        p.addRectangle(6, 2, 2, 1, 1);
        due("6: a mask before", true, () -> p.shows(8, 5, 5));
        due("6: the mask goes", 1, () -> p.remove(7));
        due("6: the next child is the mask then", false, () -> p.shows(8, 5, 5));
        due("6: and is looked through", true, () -> p.shows(9, 2, 2));
    }

    private static void move() {
        PaintLayers p = new PaintLayers();
        p.addGroup(0);
        p.addRectangle(0, 0, 0, 4, 4);
        p.addRectangle(0, 0, 0, 4, 4);
        p.addGroup(1);
        p.addDisc(4, 2, 2, 2);
        due("7: up in its own group", 0, () -> p.move(1, 0, 2));
        due("7: children", "2 3 1", () -> children(p, 0));
        due("7: down again", 2, () -> p.move(1, 0, 1));
        due("7: children", "2 1 3", () -> children(p, 0));
        due("7: to where it is", 1, () -> p.move(1, 0, 1));
        due("7: children", "2 1 3", () -> children(p, 0));
        due("7: to another group, on top", 2, () -> p.move(3, 4, 1));
        due("7: children there", "5 3", () -> children(p, 4));
        due("7: its parent", 4, () -> p.node(3, 1));
        due("7: to the bottom", 0, () -> p.move(2, 4, 0));
        due("7: children there", "2 5 3", () -> children(p, 4));
        due("7: hit", 3, () -> p.hit(1, 1));
        due("7: a group with all below it", 0, () -> p.move(4, 0, 0));
        due("7: children", "4 1", () -> children(p, 0));
        due("7: children left", "", () -> children(p, 1));
        due("7: its children go with it", "2 5 3", () -> children(p, 4));
        due("7: count", 6, () -> p.count());
        refused(p, "7: node -1", INDEX, () -> p.move(-1, 0, 0));
        refused(p, "7: node 6", INDEX, () -> p.move(6, 0, 0));
        refused(p, "7: parent 6", INDEX, () -> p.move(1, 6, 0));
        refused(p, "7: parent 40", INDEX, () -> p.move(0, 40, -1));
        refused(p, "7: the root", STATE, () -> p.move(0, 1, 0));
        refused(p, "7: parent a shape", STATE, () -> p.move(1, 5, 0));
        refused(p, "7: parent itself", STATE, () -> p.move(4, 4, 0));
        refused(p, "7: place -1", STATE, () -> p.move(3, 4, -1));
        refused(p, "7: place 3 of 3 in its own group", STATE, () -> p.move(2, 4, 3));
        refused(p, "7: place 3 of 2", STATE, () -> p.move(2, 0, 3));
        refused(p, "7: greatest place", STATE, () -> p.move(2, 0, HIGH));
        due("7: the last place of another group", 0, () -> p.move(2, 0, 2));
        p.move(1, 4, 0);
        refused(p, "7: parent below it", STATE, () -> p.move(4, 1, 0));
        p.addGroup(1);
        refused(p, "7: parent far below it", STATE, () -> p.move(4, 6, 0));
    }

    private static void node() {
        PaintLayers p = new PaintLayers();
        p.addGroup(0);
        p.addGroup(1);
        p.addTriangle(2, 0, 0, 9, 0, 0, 9);
        p.addDisc(1, 9, 9, 9);
        p.addRectangle(0, 0, 0, 9, 9);
        p.place(1, -5, 7);
        p.place(3, 100, -100);
        p.setFill(0, 10);
        p.setFill(2, 0);
        p.setOpacity(0, 7, false);
        p.setOpacity(1, 7, true);
        p.setOpacity(2, 7, false);
        p.setOpacity(3, 1, false);
        p.setOpacity(4, 5, true);
        p.setClip(3, 1, 1, 1, 0);
        p.setMask(2, true);
        due("8: root", "0 -1 0 2 0 0 10 10 7 7 0 0 0", () -> told(p, 0));
        due("8: group 1", "0 0 0 2 -5 7 -1 10 7 6 1 0 0", () -> told(p, 1));
        due("8: group 2", "0 1 0 1 0 0 0 0 7 5 2 0 1", () -> told(p, 2));
        due("8: triangle", "3 2 0 0 100 -100 -1 0 1 0 2 1 0", () -> told(p, 3));
        due("8: disc", "2 1 1 0 0 0 -1 10 5 3 1 0 0", () -> told(p, 4));
        due("8: rectangle", "1 0 1 0 0 0 -1 10 8 7 0 0 0", () -> told(p, 5));
        refused(p, "8: what -1", INDEX, () -> p.node(0, -1));
        refused(p, "8: what 13", INDEX, () -> p.node(0, 13));
        refused(p, "8: what least", INDEX, () -> p.node(0, LOW));
        refused(p, "8: node -1", INDEX, () -> p.node(-1, 0));
        refused(p, "8: node 6", INDEX, () -> p.node(6, 0));
        refused(p, "8: node greatest", INDEX, () -> p.node(HIGH, 0));
    }

    private static void child() {
        PaintLayers p = new PaintLayers();
        p.addGroup(0);
        p.addDisc(1, 1, 1, 1);
        p.addDisc(1, 2, 2, 1);
        due("9: the first", 2, () -> p.child(1, 0));
        due("9: the last", 3, () -> p.child(1, 1));
        refused(p, "9: place 2", INDEX, () -> p.child(1, 2));
        refused(p, "9: place -1", INDEX, () -> p.child(1, -1));
        refused(p, "9: place least", INDEX, () -> p.child(1, LOW));
        refused(p, "9: of a shape", INDEX, () -> p.child(2, 0));
        refused(p, "9: node 4", INDEX, () -> p.child(4, 0));
        refused(p, "9: node -1", INDEX, () -> p.child(-1, 0));
    }

    private static void count() {
        PaintLayers p = new PaintLayers();
        p.addGroup(0);
        p.addGroup(1);
        p.addDisc(0, 1, 1, 1);
        due("10: all", 4, () -> p.count());
        p.remove(1);
        due("10: without those gone", 2, () -> p.count());
        p.move(3, 0, 0);
        due("10: after a move", 2, () -> p.count());
    }

    private static void place() {
        PaintLayers p = new PaintLayers();
        p.addGroup(0);
        p.addRectangle(1, 0, 0, 2, 2);
        due("11: before", 0, () -> p.place(1, 10, 20));
        due("11: again", 10, () -> p.place(1, -3, 5));
        due("11: x", -3, () -> p.node(1, 4));
        due("11: y", 5, () -> p.node(1, 5));
        due("11: of the shape", 0, () -> p.place(2, 13, 15));
        due("11: of the root", 0, () -> p.place(0, 1, 2));
        due("11: together", "4 11 12 22 23", () -> extents(p, 2));
        due("11: the edges", -3, () -> p.place(1, -100, 100));
        due("11: the other edges", -100, () -> p.place(1, 100, -100));
        due("11: out of the picture", 0, () -> p.extent(2, 0));
        refused(p, "11: x -101", ARGUMENT, () -> p.place(1, -101, 0));
        refused(p, "11: x 101", ARGUMENT, () -> p.place(1, 101, 0));
        refused(p, "11: y -101", ARGUMENT, () -> p.place(1, 0, -101));
        refused(p, "11: y 101", ARGUMENT, () -> p.place(1, 0, 101));
        refused(p, "11: node 3", INDEX, () -> p.place(3, 101, 0));
        refused(p, "11: node -1", INDEX, () -> p.place(-1, 0, 0));
        due("11: still", 100, () -> p.node(1, 4));
        deepTree();
        p.addDisc(0, 0, 0, 3);
        p.place(3, 20, 30);
        due("11: a disc", "32 18 23 29 34", () -> extents(p, 3));
        p.addTriangle(0, 0, 0, 4, 0, 0, 4);
        p.place(4, 59, 43);
        due("11: a triangle, its tip below the picture", "9 60 63 45 47", () -> extents(p, 4));
    }

    /** A group in a group, 38 deep, and a shape at the end. */
    private static void deepTree() {
        PaintLayers p = new PaintLayers();
        for (int group = 1; group < 39; group++) {
            p.addGroup(group - 1);
            p.place(group, group % 2 == 0 ? 100 : -99, 1);
        }
        p.addRectangle(38, 0, 0, 4, 4);
        due("11: all offsets above it together", "16 19 22 38 41", () -> extents(p, 39));
        p.place(0, 3, -38);
        due("11: the root's too", "16 22 25 0 3", () -> extents(p, 39));
        p.place(38, -100, 1);
        due("11: far to the left", 0, () -> p.extent(0, 0));
        for (int group = 0; group < 39; group++) {
            p.place(group, 100, 100);
        }
        due("11: as far as it goes", 0, () -> p.extent(0, 0));
    }

    private static void setFill() {
        PaintLayers p = new PaintLayers();
        p.addGroup(0);
        p.addRectangle(1, 0, 0, 2, 2);
        due("12: at first", -1, () -> p.setFill(1, 0));
        due("12: then", 0, () -> p.setFill(1, 255));
        due("12: the root", -1, () -> p.setFill(0, 9));
        due("12: from the nearest above", 255, () -> p.node(2, 7));
        due("12: taken back", 255, () -> p.setFill(1, -1));
        due("12: from the root", 9, () -> p.value(0, 0));
        due("12: its own", -1, () -> p.setFill(2, 30));
        due("12: its own shows", 30, () -> p.value(0, 0));
        refused(p, "12: -2", ARGUMENT, () -> p.setFill(2, -2));
        refused(p, "12: 256", ARGUMENT, () -> p.setFill(2, 256));
        refused(p, "12: node 3", INDEX, () -> p.setFill(3, 256));
        refused(p, "12: node -1", INDEX, () -> p.setFill(-1, 0));
        due("12: still", 30, () -> p.node(2, 6));
    }

    private static void setOpacity() {
        PaintLayers p = new PaintLayers();
        p.addGroup(0);
        p.addRectangle(1, 0, 0, 2, 2);
        due("13: at first", 8, () -> p.setOpacity(2, 5, false));
        due("13: then", 5, () -> p.setOpacity(2, 3, false));
        due("13: painted with it", 95, () -> p.value(0, 0));
        due("13: of the group", 8, () -> p.setOpacity(1, 7, true));
        due("13: strength cut from the root down", 2, () -> p.node(2, 9));
        due("13: hidden", 0, () -> p.value(0, 0));
        due("13: seen again", 7, () -> p.setOpacity(1, 7, false));
        due("13: with its strength", 63, () -> p.value(0, 0));
        due("13: none", 3, () -> p.setOpacity(2, 0, false));
        due("13: none shows", 0, () -> p.value(0, 0));
        due("13: though the pixel shows it", true, () -> p.shows(2, 0, 0));
        refused(p, "13: -1", ARGUMENT, () -> p.setOpacity(2, -1, true));
        refused(p, "13: 9", ARGUMENT, () -> p.setOpacity(2, 9, true));
        refused(p, "13: node 3", INDEX, () -> p.setOpacity(3, 9, true));
        refused(p, "13: node -1", INDEX, () -> p.setOpacity(-1, 8, true));
        due("13: not hidden by what was refused", 0, () -> p.node(2, 10));
        due("13: the root", 8, () -> p.setOpacity(0, 4, true));
        due("13: hides all", 2, () -> p.node(2, 10));
        due("13: hides all", 0, () -> p.extent(2, 0));
    }

    private static void setClip() {
        PaintLayers p = new PaintLayers();
        p.addGroup(0);
        p.addRectangle(1, 0, 0, 30, 30);
        due("14: at first", false, () -> p.setClip(1, 5, 6, 7, 8));
        due("14: clipped", "56 5 11 6 13", () -> extents(p, 2));
        due("14: another", true, () -> p.setClip(1, 0, 0, 3, 3));
        due("14: in its place", "9 0 2 0 2", () -> extents(p, 2));
        p.place(1, 10, 0);
        due("14: moved as the node is", "9 10 12 0 2", () -> extents(p, 2));
        due("14: of the shape", false, () -> p.setClip(2, 2, 1, 100, 100));
        p.place(2, -1, 1);
        due("14: both", "2 11 12 2 2", () -> extents(p, 2));
        due("14: taken away", true, () -> p.setClip(2, 9, 9, 0, 100));
        due("14: none left", 0, () -> p.node(2, 11));
        due("14: the group's is left", "6 10 12 1 2", () -> extents(p, 2));
        due("14: a flat one is one", false, () -> p.setClip(2, 0, 0, 100, 0));
        due("14: and lets nothing through", 0, () -> p.extent(2, 0));
        due("14: it has it", true, () -> p.setClip(2, 0, 0, 0, 0));
        due("14: gone", false, () -> p.setClip(2, 0, 0, 0, 0));
        due("14: of the root", false, () -> p.setClip(0, -100, -100, 100, 100));
        due("14: hides all", 0, () -> p.extent(0, 0));
        int[][] bad = {{-101, 0, 1, 1}, {101, 0, 1, 1}, {0, -101, 1, 1}, {0, 101, 1, 1}, {0, 0, -1, 1},
            {0, 0, 101, 1}, {0, 0, 1, -1}, {0, 0, 1, 101}, {101, 0, 0, 0}, {0, 0, 0, 101}};
        for (int[] b : bad) {
            refused(p, "14: " + b[0] + " " + b[1] + " " + b[2] + " " + b[3], ARGUMENT,
                    () -> p.setClip(2, b[0], b[1], b[2], b[3]));
            refused(p, "14: a bad one on nothing", INDEX, () -> p.setClip(3, b[0], b[1], b[2], b[3]));
        }
        refused(p, "14: node -1", INDEX, () -> p.setClip(-1, 0, 0, 1, 1));
        due("14: not clipped by what was refused", 0, () -> p.node(2, 11));
    }

    private static void setMask() {
        PaintLayers p = new PaintLayers();
        p.addGroup(0);
        due("15: at first", false, () -> p.setMask(1, true));
        due("15: then", true, () -> p.setMask(1, true));
        p.addGroup(1);
        p.addRectangle(1, 0, 0, 64, 48);
        due("15: an empty group as the mask", 0, () -> p.extent(3, 0));
        p.addGroup(2);
        p.addRectangle(4, 1, 1, 2, 2);
        p.addRectangle(2, 10, 10, 3, 3);
        due("15: shapes anywhere below the mask", "13 1 12 1 12", () -> extents(p, 3));
        due("15: those in the mask are not shown", "0 -1 -1 -1 -1", () -> extents(p, 2));
        due("15: nor hit", 3, () -> p.hit(1, 1));
        p.setMask(2, true);
        p.setOpacity(2, 0, true);
        p.setOpacity(5, 0, true);
        p.setClip(5, 50, 40, 1, 1);
        due("15: hidden, clipped or masked, a mask is the same", "13 1 12 1 12", () -> extents(p, 3));
        p.place(4, 1, 0);
        due("15: a mask that is moved is not", "13 2 12 1 12", () -> extents(p, 3));
        p.setMask(0, true);
        due("15: a masked root with one child", "0 -1 -1 -1 -1", () -> extents(p, 0));
        p.addDisc(0, 0, 0, 60);
        p.move(7, 0, 0);
        due("15: two masks at once", "13 2 12 1 12", () -> extents(p, 3));
        p.place(7, 63, 1);
        due("15: a pixel must be in both", "11 3 12 1 12", () -> extents(p, 3));
        due("15: off", true, () -> p.setMask(1, false));
        due("15: no mask any more", 0, () -> p.node(1, 12));
        refused(p, "15: a shape", STATE, () -> p.setMask(3, true));
        refused(p, "15: a shape, off", STATE, () -> p.setMask(3, false));
        refused(p, "15: node 8", INDEX, () -> p.setMask(8, true));
        refused(p, "15: node -1", INDEX, () -> p.setMask(-1, false));
    }

    private static void setGround() {
        PaintLayers p = new PaintLayers();
        p.addRectangle(0, 0, 0, 1, 1);
        p.setOpacity(1, 3, false);
        due("16: at first", 0, () -> p.setGround(255));
        due("16: the greatest", 255, () -> p.setGround(100));
        due("16: a pixel", 100, () -> p.value(1, 0));
        due("16: under a shape", (100 * 5 + 255 * 3) / 8, () -> p.value(0, 0));
        refused(p, "16: -1", ARGUMENT, () -> p.setGround(-1));
        refused(p, "16: 256", ARGUMENT, () -> p.setGround(256));
        due("16: still", 100, () -> p.setGround(0));
    }

    private static void value() {
        PaintLayers p = new PaintLayers();
        p.addRectangle(0, 0, 0, 10, 10);
        p.addGroup(0);
        p.addRectangle(2, 5, 0, 10, 10);
        p.addRectangle(0, 8, 0, 10, 10);
        p.setGround(7);
        p.setFill(1, 101);
        p.setFill(3, 50);
        p.setFill(4, 200);
        p.setOpacity(1, 4, false);
        p.setOpacity(2, 6, false);
        p.setOpacity(4, 1, false);
        int one = (7 * 4 + 101 * 4) / 8;
        int two = (one * 2 + 50 * 6) / 8;
        due("17: one shape", one, () -> p.value(0, 0));
        due("17: two", two, () -> p.value(5, 9));
        due("17: three, from the lowest up", (two * 7 + 200) / 8, () -> p.value(9, 0));
        due("17: none", 7, () -> p.value(63, 47));
        due("17: not painted yet", 0, () -> p.painted(0, 0));
        pixelsRefused(p, "17", (x, y) -> p.value(x, y));
    }

    private interface PixelCall {
        Object run(int x, int y);
    }

    private static void pixelsRefused(PaintLayers p, String promise, PixelCall call) {
        int[][] bad = {{-1, 0}, {64, 0}, {0, -1}, {0, 48}, {LOW, 0}, {0, HIGH}, {HIGH, LOW}};
        for (int[] b : bad) {
            refused(p, promise + ": pixel " + b[0] + " " + b[1], INDEX, () -> call.run(b[0], b[1]));
        }
    }

    private static void hit() {
        PaintLayers p = new PaintLayers();
        due("18: nothing", -1, () -> p.hit(0, 0));
        p.addGroup(0);
        p.addRectangle(0, 0, 0, 10, 10);
        p.addRectangle(1, 0, 0, 20, 10);
        due("18: the higher one", 2, () -> p.hit(0, 0));
        due("18: the lower one alone", 3, () -> p.hit(19, 9));
        due("18: none", -1, () -> p.hit(20, 9));
        p.setOpacity(2, 0, false);
        due("18: without strength", 3, () -> p.hit(0, 0));
        p.setOpacity(2, 1, false);
        due("18: with the least strength", 2, () -> p.hit(0, 0));
        p.setOpacity(2, 8, true);
        due("18: hidden", 3, () -> p.hit(0, 0));
        p.setOpacity(2, 8, false);
        p.move(1, 0, 1);
        due("18: a group that is higher", 3, () -> p.hit(0, 0));
        pixelsRefused(p, "18", (x, y) -> p.hit(x, y));
    }

    private static void shows() {
        PaintLayers p = new PaintLayers();
        p.addGroup(0);
        p.addGroup(1);
        p.addDisc(2, 10, 10, 3);
        p.addRectangle(0, 10, 10, 10, 10);
        p.setOpacity(3, 0, false);
        due("19: a shape, though without strength", true, () -> p.shows(3, 9, 9));
        due("19: under another", true, () -> p.shows(3, 11, 11));
        due("19: beside it", false, () -> p.shows(3, 7, 7));
        due("19: its group", true, () -> p.shows(2, 9, 9));
        due("19: the group above", true, () -> p.shows(1, 9, 9));
        due("19: not another's pixel", false, () -> p.shows(1, 19, 19));
        due("19: the root", true, () -> p.shows(0, 19, 19));
        p.setOpacity(2, 8, true);
        due("19: below a hidden group", false, () -> p.shows(3, 9, 9));
        due("19: a hidden group", false, () -> p.shows(1, 9, 9));
        due("19: an empty group", false, () -> p.shows(p.addGroup(0), 9, 9));
        refused(p, "19: node 6", INDEX, () -> p.shows(6, 0, 0));
        refused(p, "19: node -1", INDEX, () -> p.shows(-1, 0, 0));
        pixelsRefused(p, "19", (x, y) -> p.shows(0, x, y));
    }

    private static void extent() {
        PaintLayers p = new PaintLayers();
        p.addGroup(0);
        p.addRectangle(1, 3, 4, 5, 6);
        p.addRectangle(1, 60, 40, 50, 50);
        due("20: a shape", "30 3 7 4 9", () -> extents(p, 2));
        due("20: one over the edge", "32 60 63 40 47", () -> extents(p, 3));
        due("20: a group", "62 3 63 4 47", () -> extents(p, 1));
        p.addRectangle(0, 4, 4, 1, 1);
        due("20: a pixel counts once", 62, () -> p.extent(0, 0));
        due("20: below another it counts", 30, () -> p.extent(2, 0));
        due("20: an empty group", "0 -1 -1 -1 -1", () -> extents(p, p.addGroup(0)));
        refused(p, "20: what -1", INDEX, () -> p.extent(0, -1));
        refused(p, "20: what 5", INDEX, () -> p.extent(0, 5));
        refused(p, "20: node -1", INDEX, () -> p.extent(-1, 0));
        refused(p, "20: node 40", INDEX, () -> p.extent(40, 0));
    }

    private static void changed() {
        PaintLayers p = new PaintLayers();
        p.addRectangle(0, 6, 7, 4, 3);
        due("21: tile 0", 2, () -> p.changed(0));
        due("21: tile 1", 2, () -> p.changed(1));
        due("21: tile 8", 4, () -> p.changed(8));
        due("21: tile 9", 4, () -> p.changed(9));
        due("21: tile 2", 0, () -> p.changed(2));
        p.setFill(1, 0);
        due("21: another shape, the same value", 0, () -> p.changed(0));
        p.setGround(1);
        due("21: the last tile", 64, () -> p.changed(47));
        due("21: without the shape", 60, () -> p.changed(9));
        p.paint();
        due("21: painted", 0, () -> p.changed(47));
        refused(p, "21: -1", INDEX, () -> p.changed(-1));
        refused(p, "21: 48", INDEX, () -> p.changed(48));
        refused(p, "21: least", INDEX, () -> p.changed(LOW));
        refused(p, "21: greatest", INDEX, () -> p.changed(HIGH));
    }

    private static void paint() {
        PaintLayers p = new PaintLayers();
        due("22: nothing", 0, () -> p.paint());
        p.addRectangle(0, 6, 7, 4, 3);
        due("22: four tiles", 4, () -> p.paint());
        due("22: again", 0, () -> p.paint());
        due("22: painted", 255, () -> p.painted(9, 9));
        p.place(1, 1, 0);
        due("22: those left and those come to", 4, () -> p.paint());
        due("22: left", 0, () -> p.painted(6, 7));
        due("22: come to", 255, () -> p.painted(10, 7));
        p.addGroup(0);
        p.addRectangle(2, 0, 0, 64, 48);
        p.setFill(3, 0);
        p.setOpacity(3, 0, false);
        due("22: nothing to be seen", 0, () -> p.paint());
        p.setGround(255);
        due("22: all", 48, () -> p.paint());
        p.remove(1);
        due("22: the same values", 0, () -> p.paint());
        p.addRectangle(0, 0, 0, 1, 1);
        p.setFill(4, 1);
        due("22: the first pixel alone", 1, () -> p.paint());
        p.place(4, 63, 47);
        due("22: the first and the last", 2, () -> p.paint());
        due("22: the last", 1, () -> p.painted(63, 47));
    }

    private static void painted() {
        PaintLayers p = new PaintLayers();
        p.setGround(5);
        due("23: not yet", 0, () -> p.painted(63, 47));
        p.paint();
        due("23: painted", 5, () -> p.painted(63, 47));
        p.addRectangle(0, 0, 0, 1, 1);
        due("23: as it was painted last", 5, () -> p.painted(0, 0));
        due("23: not as it is now", 255, () -> p.value(0, 0));
        p.paint();
        due("23: painted again", 255, () -> p.painted(0, 0));
        due("23: the others", 5, () -> p.painted(1, 0));
        pixelsRefused(p, "23", (x, y) -> p.painted(x, y));
    }

    private static void mean() {
        PaintLayers p = new PaintLayers();
        due("24: at first", 0.0, () -> p.mean());
        p.addRectangle(0, 0, 0, 1, 1);
        due("24: not painted", 0.0, () -> p.mean());
        p.paint();
        due("24: one pixel", 255.0 / 3072.0, () -> p.mean());
        p.setGround(255);
        p.paint();
        due("24: the greatest", 255.0, () -> p.mean());
    }

    private static void digest() {
        PaintLayers p = new PaintLayers();
        p.addGroup(0);
        p.addDisc(1, 20, 20, 9);
        p.addDisc(0, 40, 20, 9);
        p.remove(2);
        p.setGround(3);
        p.paint();
        p.place(3, -9, 8);
        due("25: as the document adds it up", addedUp(p, 3), () -> p.digest());
        p.setFill(3, 17);
        p.setMask(1, true);
        p.setClip(0, 1, 1, 50, 40);
        p.setOpacity(1, 5, true);
        due("25: after more changes", addedUp(p, 3), () -> p.digest());
        p.paint();
        due("25: painted", addedUp(p, 3), () -> p.digest());
    }

    private static long addedUp(PaintLayers p, int ground) {
        long d = 359;
        d = d * 31 + p.count();
        d = d * 31 + ground;
        for (int n = 0; n < 40; n++) {
            int number = n;
            if (!answerOf(() -> p.node(number, 0)).equals(INDEX)) {
                d = d * 31 + n;
                for (int what = 0; what <= 12; what++) {
                    d = d * 31 + p.node(n, what);
                }
            }
        }
        for (int i = 0; i < 3072; i++) {
            d = d * 31 + p.painted(i % 64, i / 64);
        }
        int tiles = 0;
        for (int tile = 0; tile < 48; tile++) {
            tiles += p.changed(tile) > 0 ? 1 : 0;
        }
        return d * 31 + tiles;
    }
}
