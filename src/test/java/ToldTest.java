/** Promises 4 to 6: what expand answers, about and line. */
public final class ToldTest {
    private static final String IOOBE = "IndexOutOfBoundsException";
    private static final String IAE = "IllegalArgumentException";
    private static final String TEXT = House.lines(".macro m a", "<\\a>", ".endm", ".set k,2", "x",
            ".rept k", "m \\?", " y z ", ".endr", "m end");

    public static void main(String[] args) {
        House h = new House("ToldTest");
        about(h);
        line(h);
        anew(h);
        faults(h);
        usedAgain(h);
        h.done();
    }

    private static void about(House h) {
        MacroHouse house = h.gives("x|<0>|y z|<1>|y z|<end>", TEXT);
        int[] due = {0, -1, 10 + 4 + 3, 3, 1, 1, 6, 1 + 3 + 3 + 3 + 3 + 5, 2};
        for (int what = 0; what < due.length; what++) {
            h.same("about " + what, house.about(what), due[what]);
        }
        int[] wrong = {-1, 9, 10, Integer.MAX_VALUE, Integer.MIN_VALUE};
        for (int what : wrong) {
            h.throwing("about " + what, IAE, () -> house.about(what));
        }
        h.same("nothing changed", House.out(house), "x|<0>|y z|<1>|y z|<end>");
    }

    private static void line(House h) {
        MacroHouse house = House.with(TEXT);
        h.same("expand", house.expand(), 6);
        int[][] due = {{1, 4, 0}, {3, 5, 2}, {3, 5, 1}, {3, 5, 2}, {3, 5, 1}, {5, 9, 1}};
        for (int i = 0; i < due.length; i++) {
            for (int what = 0; what < 3; what++) {
                h.same("line " + i + " " + what, house.line(i, what), due[i][what]);
            }
        }
        h.same("a sign", house.line(2, 4), (int) ' ');
        h.same("the last sign", house.line(2, 5), (int) 'z');
        h.same("behind it", house.line(2, 6), -1);
        h.same("far behind", house.line(2, Integer.MAX_VALUE), -1);
        h.throwing("line 6", IOOBE, () -> house.line(6, 0));
        h.throwing("line -1", IOOBE, () -> house.line(-1, 0));
        h.throwing("the greatest line", IOOBE, () -> house.line(Integer.MAX_VALUE, 0));
        h.throwing("the index is told first", IOOBE, () -> house.line(6, -1));
        h.throwing("what -1", IAE, () -> house.line(5, -1));
        h.throwing("the least what", IAE, () -> house.line(5, Integer.MIN_VALUE));
    }

    private static void anew(House h) {
        MacroHouse house = House.with(TEXT);
        house.expand();
        h.same("the text stays", house.expand(), 6);
        h.same("all anew", house.about(2), 17);
        h.same("macros anew", House.macros(house), "m:1,1,0,3");
        h.same("signs stay", house.put(0), TEXT.length());
        House.fill(house, "\n.foo");
        h.same("no fault yet", house.about(0), 0);
        h.same("a fault", house.expand(), -1);
        h.same("its line", house.about(1), 10);
        house.end(TEXT.length());
        h.same("told is the latest", house.about(0), 1);
        h.same("the fault is gone", house.expand(), 6);
        h.same("no line", house.about(1), -1);
        house.end(0);
        h.same("nothing", house.expand(), 0);
        h.same("no macros", house.about(4), 0);
        h.throwing("no line", IOOBE, () -> house.line(0, 0));
    }

    private static void faults(House h) {
        MacroHouse house = h.faults(7, 7, ".set a,1", ".macro m", "y", ".stop", ".endm", "x", "",
                "m", ".set b,2", "z");
        h.same("what went out ahead", House.out(house), "x|y");
        h.same("constants ahead", House.constants(house), "a=1");
        h.same("macros ahead", House.macros(house), "m:0,2,1,1");
        h.same("lines looked at", house.about(2), 10);
        h.same("signs", house.about(7), 2);
        h.same("deepest", house.about(8), 1);
        h.faults(7, 0, ".rept 1", ".each w,a", ".stop", ".endr", ".endr");
        h.faults(1, 1, "x", ".foo", ".stop");
        h.faults(7, 1, "x", ".stop", ".foo");
    }

    /** Whatever an object went over, it tells of the next text what a new one tells. */
    private static void usedAgain(House h) {
        String[] texts = {TEXT, "", "x", ".set k,(", ".set k,zz", ".if 0", ".if 1\n.if 1\n.foo",
            ".macro m a\n.rept 2\n\\a\\z\n.endr\n.endm\nm 1", ".set a,1\n.set b,2\n.forget zz",
            ".macro m a\n\\@\nm x\n.endm\nm x", ".each w,a,b\n\\w\n.stop\n.endr", ".macro k\nx",
            ".rept 2\n\\zz\n.endr", ".set k,5\n.if k\n.rept k\nx\n.endr\n.endif", ".rept 2\nx\n.endr",
            ".macro n b=1\n<\\b>\n.endm\nn\nn 2\n.set q,?k"};
        for (String first : texts) {
            MacroHouse house = House.with(first);
            house.expand();
            for (String next : texts) {
                house.end(0);
                House.fill(house, next);
                house.expand();
                MacroHouse fresh = House.with(next);
                fresh.expand();
                h.same(next + " on a used object", House.all(house), House.all(fresh));
            }
        }
    }
}
