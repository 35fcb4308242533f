/** Promise 2: put. */
public final class PutTest {
    private static final String IAE = "IllegalArgumentException";
    private static final String UOE = "UnsupportedOperationException";

    public static void main(String[] args) {
        House h = new House("PutTest");
        order(h);
        wrongSigns(h);
        full(h);
        h.done();
    }

    private static void order(House h) {
        MacroHouse house = new MacroHouse();
        h.same("four", house.put('a' | 'b' << 8 | 'c' << 16 | 'd' << 24), 4);
        h.same("gaps are left out", house.put('e' << 8 | 'f' << 24), 6);
        h.same("none", house.put(0), 6);
        h.same("the highest byte alone", house.put('~' << 24), 7);
        house.expand();
        h.same("lowest byte first", House.out(house), "abcdef~");
        house.put('\n' | ' ' << 8 | '!' << 16);
        h.same("told is the latest expand", House.out(house), "abcdef~");
        house.expand();
        h.same("a line end parts", House.out(house), "abcdef~|!");
    }

    private static void wrongSigns(House h) {
        MacroHouse house = House.with("ab");
        int[] bad = {1, 9, 11, 13, 31, 127, 128, 200, 255};
        for (int sign : bad) {
            for (int shift = 0; shift < 32; shift += 8) {
                int four = 'x' | 'x' << 8 | 'x' << 16 | 'x' << 24;
                int signs = four & ~(255 << shift) | sign << shift;
                h.throwing("put " + signs, IAE, () -> house.put(signs));
            }
        }
        h.throwing("put -1", IAE, () -> house.put(-1));
        h.same("nothing was put", house.put(0), 2);
        h.same("32, 126 and 10 may stand", house.put(32 | 126 << 8 | 10 << 16), 5);
    }

    private static void full(House h) {
        MacroHouse house = House.with(House.times(2998, "x"));
        int three = 'y' | 'y' << 8 | 'y' << 16;
        h.throwing("3001 signs", UOE, () -> house.put(three));
        h.throwing("a wrong sign is told first", IAE, () -> house.put(three | 127 << 24));
        h.same("nothing was put", house.put(0), 2998);
        h.same("3000 signs", house.put('y' | 'y' << 8), 3000);
        h.throwing("one more", UOE, () -> house.put('y'));
        h.same("none more", house.put(0), 3000);
        h.same("expand", house.expand(), 1);
        h.same("one line with all", house.line(0, 0), 3000);
        h.same("the last sign", house.line(0, 3002), (int) 'y');
    }
}
