/** Promise 3: end. */
public final class EndTest {
    private static final String IAE = "IllegalArgumentException";

    public static void main(String[] args) {
        House h = new House("EndTest");
        MacroHouse house = House.with("abc\ndef");
        h.throwing("end -1", IAE, () -> house.end(-1));
        h.throwing("end of the least int", IAE, () -> house.end(Integer.MIN_VALUE));
        h.throwing("end 8", IAE, () -> house.end(8));
        h.throwing("end of the greatest int", IAE, () -> house.end(Integer.MAX_VALUE));
        h.same("nothing changed", house.put(0), 7);
        h.throwing("end 7", "", () -> house.end(7));
        house.expand();
        h.same("all of it", House.out(house), "abc|def");
        house.end(5);
        h.same("five", house.put(0), 5);
        h.same("told is the latest expand", House.out(house), "abc|def");
        house.expand();
        h.same("the first five", House.out(house), "abc|d");
        h.throwing("what was cut is gone", IAE, () -> house.end(6));
        House.fill(house, "xy");
        house.expand();
        h.same("more behind the end", House.out(house), "abc|dxy");
        house.end(0);
        h.same("an empty text", house.expand(), 0);
        h.same("it has one line", house.about(2), 1);
        h.done();
    }
}
