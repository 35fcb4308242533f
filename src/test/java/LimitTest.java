/** Promise 4, what is too much: open ones, lines looked at, lines and signs that go out. */
public final class LimitTest {
    public static void main(String[] args) {
        House h = new House("LimitTest");
        open(h);
        openCalls(h);
        looked(h);
        keptLines(h);
        outLines(h);
        outSigns(h);
        h.done();
    }

    private static String repts(int n, String inner) {
        return House.times(n, ".rept 1\n") + inner + House.times(n, "\n.endr");
    }

    private static void open(House h) {
        MacroHouse house = h.gives("x", repts(12, "x"));
        h.same("deepest", house.about(8), 12);
        h.same("open there", house.line(0, 2), 12);
        house = h.faults(6, 0, repts(13, "x"));
        h.same("deepest of a fault", house.about(8), 12);
        h.gives("x", repts(12, ".rept 0\ny\n.endr\nx"));
        h.faults(6, 0, repts(12, ".each w,a\ny\n.endr\nx"));
        h.faults(1, 0, repts(12, ".each w,(\ny\n.endr\nx"));
        h.faults(4, 0, repts(12, ".rept 101\ny\n.endr\nx"));
        h.faults(6, 3, ".macro m", "x", ".endm", repts(12, "m"));
        h.faults(1, 3, ".macro m", "x", ".endm", repts(12, "m x"));
    }

    private static void openCalls(House h) {
        MacroHouse house = h.faults(6, 4, ".macro m", "\\@", "m", ".endm", "m");
        h.same("what went out", House.out(house), "0|1|2|3|4|5|6|7|8|9|10|11");
        h.same("calls", house.about(3), 12);
        h.same("calls of it", house.macro(0, 3), 12);
        h.same("deepest", house.about(8), 12);
        h.gives("11", ".macro m", ".if \\@==11", "\\@", ".leave", ".endif", "m", ".endm", "m");
    }

    /** A .rept, 39 kept lines and .endr, and 39 lines a turn: 41 + 3900 lines, and behind. */
    private static String many(String behind) {
        return ".rept 100\n" + House.times(39, "\n") + ".endr\n" + behind;
    }

    private static void looked(House h) {
        MacroHouse house = h.gives("x", many(House.times(58, "\n") + "x"));
        h.same("4000 lines", house.about(2), 4000);
        house = h.faults(6, 100, many(House.times(59, "\n") + ".foo"));
        h.same("no more than 4000", house.about(2), 4000);
        house = h.faults(6, 0, ".rept 100", House.times(40, "\n") + ".endr");
        h.same("no more than 4000 of a .rept", house.about(2), 4000);
        h.faults(6, 100, many(".if 0"), ".rept 100" + House.times(58, "\n"));
    }

    /** Lines that are kept are looked at too, each told by itself. */
    private static void keptLines(House h) {
        MacroHouse house = h.gives("", many(".macro m" + House.times(57, "\n")), ".endm");
        h.same("4000 lines with a macro", house.about(2), 4000);
        h.faults(6, 100, many(".macro m" + House.times(58, "\n")), ".endm");
        h.faults(6, 100, many(".rept 0" + House.times(58, "\n")), ".endr");
        h.faults(5, 41, many(".macro m" + House.times(58, "\n")));
        h.faults(6, 100, many(".macro m" + House.times(59, "\n")));
    }

    private static void outLines(House h) {
        String thousand = ".rept 10\n" + ".rept 100\nx\n.endr\n" + ".endr\n";
        MacroHouse house = House.with(thousand);
        h.same("1000 lines", house.expand(), 1000);
        h.same("the last", house.line(999, 3), (int) 'x');
        house = h.faults(6, 6, thousand, "y");
        h.same("no more lines", house.about(6), 1000);
        h.same("no more signs", house.about(7), 1000);
        h.faults(6, 0, ".rept 11\n" + ".rept 100\nx\n.endr\n" + ".endr\n");
        h.same("a blank one doesn't go out", House.with(thousand + "\n\n.set k,1").expand(), 1000);
    }

    private static void outSigns(House h) {
        String many = ".rept 40\n" + House.times(300, "x") + "\n.endr\n";
        MacroHouse house = House.with(many);
        h.same("40 lines", house.expand(), 40);
        h.same("12000 signs", house.about(7), 12000);
        h.same("the last sign", house.line(39, 302), (int) 'x');
        h.same("behind it", house.line(39, 303), -1);
        house = h.faults(6, 3, many + "y");
        h.same("no more", house.about(7), 12000);
        house = h.faults(6, 4, ".rept 39\n" + House.times(300, "x") + "\n.endr\n"
                + House.times(299, "y"), "zz", "z");
        h.same("one that is too long leaves out all of it", house.about(7), 11999);
    }
}
