/** The example in README.md, line by line: who changes one changes the other. */
public final class ReadmeTests extends Asking {
    public static void main(String[] args) {
        PaintLayers drawing = new PaintLayers();
        due("addGroup", 1, () -> drawing.addGroup(0));
        due("addDisc", 2, () -> drawing.addDisc(1, 20, 10, 6));
        due("setFill", -1, () -> drawing.setFill(1, 100));
        due("setOpacity", 8, () -> drawing.setOpacity(2, 4, false));
        due("value", 50, () -> drawing.value(20, 10));
        due("painted", 0, () -> drawing.painted(20, 10));
        due("changed", 60, () -> drawing.changed(10));
        due("paint", 6, () -> drawing.paint());
        due("painted again", 50, () -> drawing.painted(20, 10));
        due("hit", 2, () -> drawing.hit(20, 10));
        due("addDisc to a disc", STATE, () -> drawing.addDisc(2, 0, 0, 1));
        due("count", 3, () -> drawing.count());
        end();
    }
}
