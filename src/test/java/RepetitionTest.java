/** Promise 4, .rept, .each and .endr. */
public final class RepetitionTest {
    public static void main(String[] args) {
        House h = new House("RepetitionTest");
        rept(h);
        each(h);
        brackets(h);
        wrongLines(h);
        h.done();
    }

    private static void rept(House h) {
        MacroHouse house = h.gives("a|b|a|b|c", ".rept 1+1", "a", "b", ".endr junk", "c");
        h.same("from which line", house.line(3, 1), 0);
        h.same("open there", house.line(3, 2), 1);
        h.same("open behind it", house.line(4, 2), 0);
        h.same("line behind it", house.line(4, 1), 4);
        h.same("lines looked at", house.about(2), 4 + 4 + 1);
        house = h.gives("c", ".rept 0", "a", ".foo", ".endr", "c");
        h.same("none is opened", house.about(8), 0);
        h.same("kept lines are looked at", house.about(2), 5);
        house = h.gives("", ".rept 100", ".endr");
        h.same("without lines", house.about(2), 2);
        h.same("opened", house.about(8), 1);
        h.same("100 times", h.gives(House.times(99, "a|") + "a", ".rept 100", "a", ".endr").about(6),
                100);
        h.faults(4, 0, ".rept 101", ".endr");
        h.faults(4, 0, ".rept -1", ".endr");
        h.faults(4, 0, ".rept 101");
        h.gives("a", ".rept(1)", "a", ".endr");
        house = h.gives("", ".set k,0", ".rept 5", ".set k,k+\\?", ".endr");
        h.same("sum", house.constant(0, 0), 10);
        h.gives("a|a|a", ".set k,1", ".rept 2", ".rept k", "a", ".endr", ".set k,2", ".endr");
    }

    private static void each(House h) {
        MacroHouse house = h.gives("<x>|<y z>|<(a,b)>|<>", ".each w,x, y z ,(a,b),", "<\\w>",
                ".endr");
        h.same("from which line", house.line(2, 1), 0);
        h.same("open there", house.line(2, 2), 1);
        h.same("lines looked at", house.about(2), 3 + 4);
        h.gives("<>", ".each w,", "<\\w>", ".endr");
        h.gives("<>|<>", ".each w , ,", "<\\w>", ".endr");
        h.gives("<x>", ".each abcdefghijkl,x", "<\\abcdefghijkl>", ".endr");
        h.gives("0x|1y", ".each w,x,y", "\\?\\w", ".endr");
        h.gives("", ".each w" + House.times(2900, ","), ".endr");
        h.gives("ax|ay|bx|by", ".each v,a,b", ".each w,x,y", "\\v\\w", ".endr", ".endr");
        h.gives("a:x|a:a|b:x|b:b", ".each v,a,b", ".each w,x,\\v", "\\v:\\w", ".endr", ".endr");
        h.gives("x|y|a|x|y|b", ".each w,a,b", ".each w,x,y", "\\w", ".endr", "\\w", ".endr");
    }

    private static void brackets(House h) {
        h.gives("a|b|a|b|b", ".rept 1", ".rept 1", "a", ".endr", ".each w,1", "b", ".endr", ".endr",
                ".rept 1", "a", ".rept 2", "b", ".endr", ".endr");
        h.faults(5, 1, "x", ".endr");
        h.faults(5, 1, "x", ".rept 2", "y");
        h.faults(5, 1, "x", ".each w,a", ".rept 1", ".endr");
        h.faults(5, 0, ".rept 0", ".each", "y");
        h.same("no end", h.faults(5, 0, ".rept 2", "y", "").about(2), 3);
        h.faults(5, 4, ".macro m", ".rept 1", ".endm", "x", "m", ".endr");
        h.faults(5, 3, ".macro m", ".endr", ".endm", "m");
        h.faults(5, 4, ".macro m a", ".rept 1", "\\a", ".endm", "m .endr");
        h.gives("x|x", ".macro m a", "\\a 2", "x", ".endr", ".endm", "m .rept");
        h.gives("y|y|x", ".macro m a", ".each w,1,2", "y", ".endr", "x", ".endm", "m 1");
        h.faults(5, 0, ".rept 1", ".if 1", ".endr", ".endif", ".endr");
        h.gives("a", ".rept 1", ".if 0", ".rept 2", ".endr", ".else", "a", ".endif", ".endr");
    }

    private static void wrongLines(House h) {
        String[] wrong = {".rept", ".rept 1 1", ".rept 1,", ".each", ".each w", ".each ,a",
            ".each 1,a", ".each w a", ".each w,(", ".each w,)", ".each w,a,(b", ".each W,a",
            ".each abcdefghijklm,a", ".each w=a,b"};
        for (String line : wrong) {
            h.faults(1, 1, "x", line, ".endr");
            h.faults(1, 1, "x", line);
        }
        h.faults(3, 0, ".rept zz");
    }
}
