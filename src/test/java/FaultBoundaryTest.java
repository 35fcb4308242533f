/** The edges that the document's third term names: what goes out, and which fault is told. */
public final class FaultBoundaryTest {
    public static void main(String[] args) {
        House h = new House("FaultBoundaryTest");
        goesOut(h);
        outLines(h);
        outSigns(h);
        looked(h);
        lookedOfEachSort(h);
        lookedWhileKept(h);
        firstMet(h);
        leastKind(h);
        leastOfMacros(h);
        leastOfOpened(h);
        leastOfOutput(h);
        valuesLeftToRight(h);
        lineOfTheText(h);
        h.done();
    }

    private static void goesOut(House h) {
        h.says("each line that comes and is no directive and no call: its signs, as they are then, "
                + "without blanks at their ends");
        h.gives("x", ".set k,1", "", "  x  ", ".macro m", ".endm", "m", ".if 0", "y", ".endif");
        h.gives("x", ".macro m a=", "\\a x \\a", "\\a", "\\a \\a", ".endm", "m");
        h.same("its signs", h.gives("x", ".macro m a=", "\\a x \\a", ".endm", "m").about(7), 1);
    }

    private static String lines(int hundreds, int more) {
        return ".rept " + hundreds + "\n.rept 100\nx\n.endr\n.endr" + House.times(more, "\nx");
    }

    private static void outLines(House h) {
        h.says("At most 1000 lines (else fault 6)");
        MacroHouse house = House.with(lines(9, 100));
        h.same("1000", house.expand(), 1000);
        h.same("the last", house.line(999, 3), (int) 'x');
        h.throwing("one more", "IndexOutOfBoundsException", () -> house.line(1000, 0));
        MacroHouse more = h.faults(6, 105, lines(9, 101));
        h.same("lines that stay told", more.about(6), 1000);
        h.same("signs that stay told", more.about(7), 1000);
        h.same("its line is looked at", more.about(2), 5 + 9 * 103 + 101);
        h.faults(6, 0, lines(11, 0));
        MacroHouse blank = House.with(lines(10, 0) + "\n\n.set k,1\n.if 0\nx\n.endif");
        h.same("others may come behind", blank.expand(), 1000);
    }

    private static void outSigns(House h) {
        h.says("with at most 12000 signs (else fault 6)");
        String many = ".rept 39\n" + House.times(300, "x") + "\n.endr\n";
        MacroHouse house = House.with(many + House.times(300, "y"));
        h.same("12000", house.expand(), 40);
        h.same("signs", house.about(7), 12000);
        h.same("the last sign", house.line(39, 302), (int) 'y');
        h.same("behind it", house.line(39, 303), MacroHouse.NONE);
        house = h.faults(6, 3, many + House.times(301, "y"));
        h.same("signs of 12001", house.about(7), 11700);
        h.same("lines of 12001", house.about(6), 39);
        house = h.faults(6, 4, many + House.times(300, "y"), "z");
        h.same("signs of one more", house.about(7), 12000);
        h.gives("z", "z", "", "  ");
    }

    /** 41 lines, and 39 in each of 100 turns. */
    private static String many(String behind) {
        return ".rept 100\n" + House.times(39, "\n") + ".endr\n" + behind;
    }

    private static void looked(House h) {
        h.says("more than 4000 lines that were looked at");
        MacroHouse house = h.gives("x", many(House.times(58, "\n") + "x"));
        h.same("4000", house.about(2), 4000);
        house = h.faults(6, 100, many(House.times(59, "\n") + "x"));
        h.same("4001", house.about(2), 4000);
        h.faults(7, 99, many(House.times(58, "\n") + ".stop"));
        h.faults(6, 100, many(House.times(59, "\n") + ".stop"));
        house = h.faults(6, 0, ".rept 100\n.rept 100\n\n.endr\n.endr");
        h.same("of a .rept", house.about(2), 4000);
    }

    private static void lookedOfEachSort(House h) {
        h.says("each line of the text or of a macro, .rept, .each, also blank ones, ones that don't "
                + "come or are kept");
        h.same("blank", h.gives("", "", "", "").about(2), 3);
        h.same("that don't come", h.gives("", ".if 0", "x", "", ".endif").about(2), 4);
        h.same("kept by a macro", h.gives("", ".macro m", "x", "", ".endm").about(2), 4);
        h.same("of a macro", h.gives("x", ".macro m", "x", "", ".endm", "m").about(2), 4 + 1 + 2);
        h.same("kept by a .rept", h.gives("", ".rept 0", "x", "", ".endr").about(2), 4);
        h.same("of a .rept", h.gives("x|x", ".rept 2", "x", "", ".endr").about(2), 4 + 2 * 2);
        h.same("of an .each", h.gives("x|x", ".each w,1,2", "x", "", ".endr").about(2), 4 + 2 * 2);
        h.same("of one in another", h.gives("x|x", ".rept 2", ".rept 1", "x", ".endr", ".endr").about(2),
                5 + 2 * (3 + 1));
        h.same("up to a fault", h.faults(7, 1, "x", ".stop", "y").about(2), 2);
        h.same("up to a missing end", h.faults(5, 1, "x", ".macro m", "y").about(2), 3);
    }

    private static void lookedWhileKept(House h) {
        h.says("more than 4000 lines that were looked at, as they are kept");
        h.same("a macro's", h.gives("", many(".macro m" + House.times(58, "\n") + ".endm")).about(2),
                4000);
        h.same("no macro", h.faults(6, 100, many(".macro m" + House.times(59, "\n") + ".endm"))
                .about(4), 0);
        h.same("a .rept's", h.gives("", many(".rept 0" + House.times(58, "\n") + ".endr")).about(2),
                4000);
        h.faults(6, 100, many(".rept 0" + House.times(59, "\n") + ".endr"));
        h.same("none is opened", h.faults(6, 41, many(House.lines(".rept 1", ".rept 1",
                House.times(38, "\n") + ".endr", ".endr"))).about(8), 1);
        h.same("that don't come", h.gives("", many(".if 0" + House.times(58, "\n") + ".endif"))
                .about(2), 4000);
        h.faults(6, 100, many(".if 0" + House.times(59, "\n") + ".endif"));
        h.faults(5, 41, many(".if 0" + House.times(58, "\n")));
    }

    private static void firstMet(House h) {
        h.says("THE FAULT is the first that is met as lines come");
        h.faults(7, 1, "x", ".stop", ".foo");
        h.faults(1, 1, "x", ".foo", ".stop");
        h.faults(7, 2, ".if 1", ".if 1", ".stop", ".foo");
        h.faults(7, 6, ".macro m", ".stop", ".endm", ".macro n", ".foo", ".endm", "m", "n");
        h.faults(3, 0, ".rept 2", ".set k,zz", ".stop", ".endr");
        h.faults(7, 0, ".rept 2", ".if \\?", ".set k,zz", ".endif", ".if ?k", ".endif", ".stop",
                ".endr");
    }

    private static void leastKind(House h) {
        h.says("of one line the least of these kinds that it has: 1 ahead of all");
        String sets = sets(64);
        h.faults(1, 0, ".set k,zz 1");
        h.faults(1, 0, ".set k,1/0+");
        h.faults(1, 0, ".forget zz zz");
        h.faults(1, 0, ".rept 101 1");
        h.faults(1, 0, ".rept zz,");
        h.faults(1, 0, ".leave x");
        h.faults(1, 64, sets + ".set l,");
        h.says("of one line the least of these kinds that it has: 3 and 4 ahead of 6");
        h.faults(3, 64, sets + ".set l,zz");
        h.faults(4, 64, sets + ".set l,1/0");
        h.faults(6, 64, sets + ".set l,1");
        String ifs = House.times(8, ".if 1\n");
        h.faults(1, 8, ifs + ".if (");
        h.faults(3, 8, ifs + ".if zz");
        h.faults(4, 8, ifs + ".if 1%0");
        h.faults(1, 8, ifs + ".ifsame a");
        h.faults(6, 8, ifs + ".if 1");
        h.faults(6, 8, ifs + ".ifsame a,a");
    }

    private static String sets(int n) {
        StringBuilder text = new StringBuilder();
        for (int k = 0; k < n; k++) {
            text.append(".set k").append(k).append(",1\n");
        }
        return text.toString();
    }

    private static void leastOfMacros(House h) {
        h.says("of one line the least of these kinds that it has: a .macro");
        StringBuilder text = new StringBuilder();
        for (int k = 0; k < 16; k++) {
            text.append(".macro m").append(k).append("\n.endm\n");
        }
        String macros = text.toString();
        h.faults(1, 32, macros + ".macro m0 1\n.endm");
        h.faults(2, 32, macros + ".macro m0\n.endm");
        h.faults(5, 32, macros + ".macro n\n");
        h.faults(6, 32, macros + ".macro n\n.endm");
        h.faults(1, 2, ".macro m", ".endm", ".macro m a,a");
        h.faults(2, 2, ".macro m", ".endm", ".macro m");
        h.faults(1, 0, ".macro 1");
        h.faults(5, 0, ".macro m");
        h.faults(1, 2, ".macro m", ".endm", ".rept 1", ".macro m 1", ".endr");
        h.faults(2, 2, ".macro m", ".endm", ".rept 1", ".macro m", ".endr");
        h.faults(5, 2, ".macro m", ".endm", ".rept 1", ".macro n", ".endr");
    }

    private static void leastOfOpened(House h) {
        h.says("of one line the least of these kinds that it has: one that would be open");
        h.faults(4, 0, ".rept 101");
        h.faults(1, 0, ".rept");
        h.faults(1, 0, ".each w");
        h.faults(5, 0, ".each w,");
        String twelve = House.times(12, ".rept 1\n");
        String ends = House.times(12, "\n.endr");
        h.faults(1, 0, twelve + ".rept\n.endr" + ends);
        h.faults(3, 0, twelve + ".rept zz\n.endr" + ends);
        h.faults(4, 0, twelve + ".rept 101\n.endr" + ends);
        h.faults(6, 0, twelve + ".rept 1\n.endr" + ends);
        h.faults(1, 0, twelve + ".each w,(\n.endr" + ends);
        h.faults(6, 0, twelve + ".each w,\n.endr" + ends);
        String macro = ".macro m a\n.endm\n";
        h.faults(1, 2, macro + twelve + "m" + ends);
        h.faults(6, 2, macro + twelve + "m 1" + ends);
        // Only what a macro gives can be short of its .endr with twelve open around it.
        h.faults(5, 3, ".macro n", ".rept 1", ".endm", House.times(11, ".rept 1\n") + "n"
                + House.times(11, "\n.endr"));
    }

    private static void leastOfOutput(House h) {
        h.says("of one line the least of these kinds that it has: one that would go out");
        String full = lines(10, 0) + "\n";
        h.faults(1, 5, full + ".foo");
        h.faults(3, 5, full + ".forget zz");
        h.faults(5, 5, full + ".endif");
        h.faults(7, 5, full + ".stop");
        h.faults(6, 5, full + "x");
        h.faults(1, 5, full + ".rept 1\n\\z\n.endr");
        h.faults(6, 5, full + ".rept 1\nz\n.endr");
    }

    private static void valuesLeftToRight(House h) {
        h.says("2 to 4 of values as they are met from left to right, all 1s of the line ahead of them");
        h.faults(3, 0, ".set k,zz+1/0");
        h.faults(4, 0, ".set k,1/0+zz");
        h.faults(3, 0, ".set k,zz/0");
        h.faults(3, 0, ".set k,0/zz");
        h.faults(4, 0, ".set k,0/0/zz");
        h.faults(3, 0, ".set k,1/(zz*0)");
        h.faults(4, 0, ".set k,-(1%0)<zz");
        h.faults(3, 0, ".set k,-(zz)<=1%0");
        h.faults(4, 0, ".if 1/0!=zz", ".endif");
        h.faults(3, 0, ".rept 1000+zz", ".endr");
        h.faults(4, 0, ".rept 1000+1/0+zz", ".endr");
        h.faults(1, 0, ".set k,zz+1/0+");
        h.faults(1, 0, ".set k,1/0+zz+1234567890");
        h.faults(1, 0, ".set k,1/0+?");
        h.faults(1, 0, ".set k,(zz");
        h.faults(1, 0, ".set k,(1/0)==1==1");
    }

    private static void lineOfTheText(House h) {
        h.says("Its LINE is that of the text; for lines that something gives that of the outermost "
                + "call, .rept or .each");
        h.faults(7, 0, ".stop");
        h.faults(7, 2, "", "", ".stop");
        h.faults(7, 4, ".macro m", ".stop", ".endm", "", "m");
        h.faults(7, 7, ".macro m", ".stop", ".endm", ".macro n", "m", ".endm", "", "n");
        h.faults(7, 1, "", ".rept 1", "", ".each w,a", ".stop", ".endr", ".endr");
        h.faults(7, 1, "", ".each w,a", "", ".rept 1", ".stop", ".endr", ".endr");
        h.faults(7, 5, ".macro m", ".endm", "m", ".rept 1", ".endr", ".stop");
        h.faults(7, 6, ".macro m a", ".if \\a", ".stop", ".endif", ".endm", "m 0", "m 1");
        MacroHouse house = h.gives("x|x|y", ".macro m", "x", ".endm", "m", ".rept 1", "m", ".endr", "y");
        int[] due = {3, 4, 7};
        for (int i = 0; i < due.length; i++) {
            h.same("line " + i, house.line(i, 1), due[i]);
        }
    }
}
