/** Where several sentences of the document meet in one call. */
public final class MeetingTests extends Asking {
    public static void main(String[] args) {
        wayDownToOnePixel();
        wholeDrawingMovedByTheRoot();
        maskMovedWithinItsGroup();
        maskMovedOutAndIn();
        maskRemoved();
        shapesMovedIntoAMask();
        maskThatIsMaskedItself();
        newParentGivesAll();
        hiddenOrWithoutStrengthAbove();
        changedAndChangedBack();
        removedAfterPainting();
        maskChangedAfterPainting();
        end();
    }

    // ---- offsets, clips, masks and strengths on the way down

    /** Root, masked group, mask and shape have offsets of their own; the root and the shape have a clip. */
    private static PaintLayers deepDrawing() {
        PaintLayers p = new PaintLayers();
        p.place(0, 10, 5);
        p.addGroup(0);
        p.place(1, 2, 3);
        p.setMask(1, true);
        p.addRectangle(1, 0, 0, 6, 6);
        p.place(2, 1, 1);
        p.addRectangle(1, -50, -50, 100, 100);
        p.setClip(0, 0, 0, 20, 5);
        p.setClip(3, 2, 0, 3, 100);
        p.setGround(50);
        p.setFill(1, 100);
        p.setOpacity(0, 7, false);
        p.setOpacity(1, 6, false);
        p.setOpacity(3, 5, false);
        return p;
    }

    private static void wayDownToOnePixel() {
        PaintLayers p = deepDrawing();
        due("in the mask, in both clips", "3 14 16 9 9", () -> extents(p, 3));
        due("8 * 7 / 8, * 6 / 8, * 5 / 8, cut each time", 3, () -> p.node(3, 9));
        due("the group's fill at this strength", (50 * 5 + 100 * 3) / 8, () -> p.value(14, 9));
        due("in the mask, out of the shape's clip", 50, () -> p.value(13, 9));
        due("in the mask, out of the root's clip", 50, () -> p.value(14, 10));
        due("in both clips, out of the mask", 50, () -> p.value(14, 8));
        p.setClip(0, 0, 0, 0, 0);
        due("without the root's clip", "18 14 16 9 14", () -> extents(p, 3));
        p.setClip(3, 0, 0, 0, 100);
        due("the mask alone", "36 13 18 9 14", () -> extents(p, 3));
        p.setClip(1, 6, 6, 100, 100);
        due("the masked group's clip has no part in the mask's offset", "1 18 18 14 14", () -> extents(p, 3));
        p.setClip(2, -100, -100, 1, 1);
        due("the mask's own clip has no part at all", "1 18 18 14 14", () -> extents(p, 3));
        p.setMask(1, false);
        due("the mask as a shape, by its own clip", "0 -1 -1 -1 -1", () -> extents(p, 2));
        due("no mask: 44 by 34 pixels in the group's clip", "1496 18 61 14 47", () -> extents(p, 3));
    }

    private static void wholeDrawingMovedByTheRoot() {
        PaintLayers p = deepDrawing();
        due("the ground too", 48, () -> p.paint());
        p.place(0, 11, 5);
        due("all moved by one", "3 15 17 9 9", () -> extents(p, 3));
        due("left", 1, () -> p.changed(9));
        due("come to", 1, () -> p.changed(10));
        due("now", 50, () -> p.value(14, 9));
        due("as painted", 68, () -> p.painted(14, 9));
        due("two tiles", 2, () -> p.paint());
        due("painted", 50, () -> p.painted(14, 9));
        due("painted where it came to", 68, () -> p.painted(17, 9));
    }

    // ---- a mask that is moved or removed

    /** A masked group: its mask 2, and above it 3 and 4 with fills of their own; painted. */
    private static PaintLayers maskedDrawing() {
        PaintLayers p = new PaintLayers();
        p.addGroup(0);
        p.addRectangle(1, 0, 0, 8, 8);
        p.addRectangle(1, 4, 4, 8, 8);
        p.addRectangle(1, 0, 0, 64, 48);
        p.setFill(2, 10);
        p.setFill(3, 20);
        p.setFill(4, 30);
        p.setMask(1, true);
        p.paint();
        return p;
    }

    private static void dueTiles(String what, PaintLayers p, int... changed) {
        int[] tiles = {0, 1, 8, 9};
        int all = 0;
        for (int i = 0; i < tiles.length; i++) {
            int tile = tiles[i];
            due(what + ", tile " + tile, changed[i], () -> p.changed(tile));
            all += changed[i] > 0 ? 1 : 0;
        }
        int want = all;
        due(what + ", the tiles", want, () -> p.paint());
    }

    private static void maskMovedWithinItsGroup() {
        PaintLayers p = maskedDrawing();
        due("in the mask", 30, () -> p.value(5, 5));
        due("out of it", 0, () -> p.value(9, 9));
        due("the mask's place before", 0, () -> p.move(2, 1, 2));
        due("the mask before is on top now", 10, () -> p.value(5, 5));
        due("in the new mask", 30, () -> p.value(9, 9));
        due("out of the new mask", -1, () -> p.hit(0, 0));
        due("the mask before shows in the new one", "16 4 7 4 7", () -> extents(p, 2));
        due("the new mask does not show", "0 -1 -1 -1 -1", () -> extents(p, 3));
        dueTiles("another mask", p, 64, 16, 16, 16);
        due("moved to its own place", 2, () -> p.move(2, 1, 2));
        dueTiles("nothing moved", p, 0, 0, 0, 0);
    }

    private static void maskMovedOutAndIn() {
        PaintLayers p = maskedDrawing();
        due("out of its group, below it", 0, () -> p.move(2, 0, 0));
        due("it shows whole", "64 0 7 0 7", () -> extents(p, 2));
        due("below the group's shapes", 30, () -> p.value(5, 5));
        due("where they do not show", 10, () -> p.value(3, 3));
        due("the next is the mask", "64 4 11 4 11", () -> extents(p, 4));
        dueTiles("out", p, 48, 16, 16, 16);
        due("in again, as the mask", 0, () -> p.move(2, 1, 0));
        due("a mask again", 0, () -> p.extent(2, 0));
        dueTiles("in", p, 48, 16, 16, 16);
        due("in at the second place", 0, () -> p.move(2, 1, 1));
        due("no mask", "16 4 7 4 7", () -> extents(p, 2));
    }

    private static void maskRemoved() {
        PaintLayers p = new PaintLayers();
        p.addGroup(0);
        p.addGroup(1);
        p.addDisc(2, 4, 4, 4);
        p.addRectangle(2, 20, 0, 4, 4);
        p.addRectangle(1, 0, 0, 64, 1);
        p.addRectangle(1, 2, 0, 30, 40);
        p.setMask(1, true);
        due("in a group as the mask: 42 pixels of the disc, 16 beside", "58 2 23 0 7", () -> extents(p, 6));
        due("a shape of the mask gone", 1, () -> p.remove(3));
        due("in what is left of it", "16 20 23 0 3", () -> extents(p, 6));
        due("the mask gone with all below it", 2, () -> p.remove(2));
        due("in the next mask", "30 2 31 0 0", () -> extents(p, 6));
        due("the next mask gone", 1, () -> p.remove(5));
        due("the last child is a mask", 0, () -> p.extent(6, 0));
        due("the last child gone", 1, () -> p.remove(6));
        due("masked without a child", "0 1", () -> p.node(1, 3) + " " + p.node(1, 12));
        p.addRectangle(1, 0, 0, 64, 48);
        due("who comes first is the mask", 0, () -> p.extent(7, 0));
        p.addRectangle(1, 60, 40, 30, 30);
        due("who comes next shows in it", "32 60 63 40 47", () -> extents(p, 8));
    }

    private static void shapesMovedIntoAMask() {
        PaintLayers p = new PaintLayers();
        p.addGroup(0);
        p.addGroup(1);
        p.addRectangle(1, 0, 0, 64, 48);
        p.addGroup(0);
        p.addRectangle(4, 0, 0, 2, 2);
        p.place(4, 3, 0);
        p.place(2, 0, 7);
        p.setMask(1, true);
        due("nothing in the mask", 0, () -> p.extent(3, 0));
        due("a group shows", "4 3 4 0 1", () -> extents(p, 4));
        due("it is moved into the mask", 1, () -> p.move(4, 2, 0));
        due("it shows no more", 0, () -> p.extent(4, 0));
        due("it lets through, by the mask's offset and its own", "4 3 4 7 8", () -> extents(p, 3));
        due("it is moved behind the mask", 0, () -> p.move(4, 1, 1));
        due("nothing in the mask again", 0, () -> p.extent(0, 0));
        due("the empty mask is moved away", 0, () -> p.move(2, 0, 1));
        due("the group is the mask", "4 3 4 0 1", () -> extents(p, 3));
    }

    /** A mask is a group that is masked and clipped itself: all of its shapes let through. */
    private static void maskThatIsMaskedItself() {
        PaintLayers p = new PaintLayers();
        p.addGroup(0);
        p.addGroup(1);
        p.addRectangle(2, 0, 0, 2, 2);
        p.addRectangle(2, 4, 4, 2, 2);
        p.addRectangle(1, 0, 0, 64, 48);
        p.setMask(2, true);
        p.setClip(2, 0, 0, 1, 1);
        p.setClip(0, 0, 0, 5, 5);
        p.setMask(1, true);
        due("all shapes of the mask, in the root's clip", "5 0 4 0 4", () -> extents(p, 5));
        due("of two nested masks none shows", "0 0", () -> p.extent(3, 0) + " " + p.extent(4, 0));
        p.setMask(1, false);
        due("no mask outside: the mask inside and its clip", 0, () -> p.extent(4, 0));
        due("no mask outside: the shape above shows in the clip", 25, () -> p.extent(5, 0));
    }

    // ---- what comes from above

    private static void newParentGivesAll() {
        PaintLayers p = new PaintLayers();
        p.addGroup(0);
        p.addGroup(0);
        p.addGroup(1);
        p.addRectangle(3, 0, 0, 1, 1);
        p.place(2, 5, 6);
        p.setFill(2, 80);
        p.setOpacity(2, 3, true);
        p.setClip(2, 0, 0, 1, 1);
        p.place(3, 1, 1);
        due("under the first", "1 3 0 0 0 0 -1 255 8 8 0 0 0", () -> told(p, 4));
        due("at", "1 1 1 1 1", () -> extents(p, 4));
        due("moved to the second", 0, () -> p.move(3, 2, 0));
        due("under the second", "1 3 0 0 0 0 -1 80 8 3 2 0 0", () -> told(p, 4));
        due("hidden by it", 0, () -> p.extent(4, 0));
        p.setOpacity(2, 3, false);
        due("out of its clip", 0, () -> p.extent(4, 0));
        p.setClip(2, 1, 1, 1, 1);
        due("moved by it, with its clip", "1 6 6 7 7", () -> extents(p, 4));
        due("painted by it", 80 * 3 / 8, () -> p.value(6, 7));
        due("back to the first", 0, () -> p.move(3, 1, 0));
        due("under the first again", "1 3 0 0 0 0 -1 255 8 8 0 0 0", () -> told(p, 4));
    }

    private static void hiddenOrWithoutStrengthAbove() {
        PaintLayers p = new PaintLayers();
        p.addRectangle(0, 0, 0, 9, 9);
        p.addGroup(0);
        p.addRectangle(2, 0, 0, 9, 9);
        p.setOpacity(2, 1, false);
        p.setOpacity(3, 7, false);
        due("1 * 7 / 8 is cut to 0", 0, () -> p.node(3, 9));
        due("shown without strength", true, () -> p.shows(3, 1, 1));
        due("not hit: the one below is", 1, () -> p.hit(1, 1));
        p.setOpacity(3, 8, false);
        due("hit with a strength of 1", 3, () -> p.hit(1, 1));
        p.setOpacity(2, 8, true);
        due("hidden by its group: the one below is hit", 1, () -> p.hit(1, 1));
        due("nor shown", false, () -> p.shows(3, 1, 1));
        p.move(3, 0, 0);
        due("out of the hidden group, below the other", 1, () -> p.hit(1, 1));
        p.setOpacity(0, 0, false);
        due("no strength anywhere", -1, () -> p.hit(1, 1));
        due("both shown", 81, () -> p.extent(0, 0));
    }

    // ---- changed after it was painted

    private static void changedAndChangedBack() {
        PaintLayers p = maskedDrawing();
        long before = p.digest();
        p.setFill(4, 31);
        due("another fill", 64, () -> p.changed(0));
        due("the digest tells the tile", false, () -> p.digest() == before);
        p.setFill(4, 30);
        due("the fill back", before, () -> p.digest());
        p.place(2, 3, 0);
        p.place(2, 0, 0);
        p.move(2, 0, 1);
        p.move(2, 1, 0);
        p.setClip(0, 0, 0, 1, 1);
        p.setClip(0, 0, 0, 0, 0);
        p.setMask(1, false);
        p.setMask(1, true);
        due("all back", before, () -> p.digest());
        due("nothing to paint", 0, () -> p.paint());
        p.setGround(9);
        due("the ground does not show in the mask", 0, () -> p.changed(0));
        due("beside it", 64, () -> p.changed(1));
        due("all tiles but the mask's", 47, () -> p.paint());
    }

    private static void removedAfterPainting() {
        PaintLayers p = new PaintLayers();
        p.addGroup(0);
        p.addRectangle(1, 6, 6, 4, 4);
        p.addRectangle(0, 6, 6, 2, 2);
        p.paint();
        due("a group with its shape", 2, () -> p.remove(1));
        due("what covers it stays", 0, () -> p.changed(0));
        dueTiles("the rest goes", p, 0, 4, 4, 4);
        due("a number that is gone", INDEX, () -> p.shows(2, 6, 6));
        due("the next number", 4, () -> p.addRectangle(0, 6, 6, 4, 4));
        dueTiles("another in its place", p, 0, 4, 4, 4);
        due("the mean of 16 pixels", 16 * 255.0 / 3072.0, () -> p.mean());
    }

    private static void maskChangedAfterPainting() {
        PaintLayers p = maskedDrawing();
        p.setFill(2, 99);
        p.setOpacity(2, 0, true);
        p.setClip(2, 50, 0, 1, 1);
        dueTiles("a mask's paints do not count", p, 0, 0, 0, 0);
        p.place(2, 1, 0);
        dueTiles("its offset does", p, 8, 8, 0, 0);
        p.setMask(1, false);
        due("no mask: what it let through has its value already", 8, () -> p.changed(0));
        due("beside it", 56, () -> p.changed(1));
        due("all tiles", 48, () -> p.paint());
    }
}
