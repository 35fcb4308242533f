/** Promise 1: an empty text, nothing went out, no fault. */
public final class NewObjectTest {
    public static void main(String[] args) {
        House h = new House("NewObjectTest");
        MacroHouse house = new MacroHouse();
        h.same("NONE", MacroHouse.NONE, -1);
        for (int what = 0; what <= 8; what++) {
            h.same("about " + what, house.about(what), what == 1 ? -1 : 0);
        }
        h.throwing("line 0", "IndexOutOfBoundsException", () -> house.line(0, 0));
        h.throwing("constant 0", "IndexOutOfBoundsException", () -> house.constant(0, 0));
        h.throwing("macro 0", "IndexOutOfBoundsException", () -> house.macro(0, 0));
        h.same("signs", house.put(0), 0);
        h.throwing("end 1", "IllegalArgumentException", () -> house.end(1));
        h.same("expand", house.expand(), 0);
        h.same("lines looked at", house.about(2), 1);
        MacroHouse other = House.with("x");
        other.expand();
        h.same("one object leaves another alone", house.about(6), 0);
        h.done();
    }
}
