/** Promise 4, what is replaced behind a \ and where. */
public final class ReplacementTest {
    public static void main(String[] args) {
        House h = new House("ReplacementTest");
        parameters(h);
        scopes(h);
        numbers(h);
        wrongMarks(h);
        firstWords(h);
        conditions(h);
        ends(h);
        length(h);
        apart(h);
        h.done();
    }

    private static void parameters(House h) {
        h.gives("x.y-x", ".macro m a,ab", "\\a.\\ab-\\a", ".endm", "m x,y");
        h.gives("xA", ".macro m a", "\\aA", ".endm", "m x");
        h.gives("\\b", ".macro m a", "\\a", ".endm", "m \\b");
        h.gives("<>", ".macro m a=", "<\\a>", ".endm", "m");
        h.gives("b", ".macro m a=", "\\a", "\\a b \\a", ".endm", "m");
    }

    private static void scopes(House h) {
        h.faults(1, 6, ".macro in", "\\a", ".endm", ".macro m a", "in", ".endm", "m 1");
        h.faults(1, 3, ".macro m", "\\w", ".endm", ".each w,1", "m", ".endr");
        h.gives("w|1", ".macro m a", ".each a,w", "\\a", ".endr", "\\a", ".endm", "m 1");
        h.gives("1w", ".macro m a", ".each w,w", "\\a\\w", ".endr", ".endm", "m 1");
        h.gives("v", ".macro m a", "\\a", ".endm", ".each w,v", "m \\w", ".endr");
        h.gives("2|1", ".macro in a", "\\a", ".endm", ".macro m a", "in 2", "\\a", ".endm", "m 1");
        h.gives("1|2", ".macro m a", ".rept 1", "\\a", ".endr", ".endm", "m 1", "m 2");
        h.gives("x1|x2|y1|y2", ".each v,x,y", ".rept 1", ".each w,1,2", "\\v\\w", ".endr", ".endr",
                ".endr");
    }

    private static void numbers(House h) {
        h.gives("0|1|2|1|3", ".macro in", "\\@", ".endm", ".macro m", "\\@", "in", "\\@", ".endm",
                "in", "m", "in");
        h.gives("00|01|10|11", ".macro m", ".rept 2", "\\@\\?", ".endr", ".endm", "m", "m");
        h.gives("0|0|1|1|0|1", ".rept 2", "\\?", ".rept 2", "\\?", ".endr", ".endr");
        h.faults(1, 0, ".rept 2", "\\@", ".endr");
        h.faults(1, 3, ".macro m", "\\?", ".endm", ".rept 2", "m", ".endr");
        h.gives("a12", ".rept 13", ".if \\?==12", "a\\?", ".endif", ".endr");
        h.gives("a100", ".macro m", ".if \\@==100", "a\\@", ".endif", ".endm", ".rept 100", "m",
                ".endr", "m");
    }

    private static void wrongMarks(House h) {
        String[] wrong = {"\\", "x\\", "\\ a", "\\1", "\\A", "\\\\a", "\\b", "\\a\\", "\\aa", "\\.",
            "\\abcdefghijklm", ".foo\\b", ".endr\\b", ".stop\\b", ".leave\\b", ".else\\b"};
        for (String line : wrong) {
            h.faults(1, 3, ".macro m a", line, ".endm", "m 1");
        }
        h.faults(1, 0, ".rept 1", "\\b", ".endr");
        h.gives("x", ".macro m a", "x # \\b", ".if 0", "\\b", ".endif", ".endm", "m 1");
        h.gives("\\a|\\|\\@|\\?", "\\a", "\\", "\\@", "\\?");
        h.gives("", ".rept 0", "\\b", ".endr");
    }

    /** What a line is counts when it is replaced, if it comes. */
    private static void firstWords(House h) {
        String head = House.lines(".macro m a,b=", "\\a k\\b", ".endm");
        MacroHouse house = h.gives("", ".set k,1", head, "m .forget");
        h.same("forgotten", house.about(5), 0);
        h.faults(1, 4, ".set k,1", head, "m .forget,x y");
        h.faults(7, 3, head, "m .stop");
        h.faults(1, 3, head, "m .stopx");
        h.faults(1, 3, head, "m .");
        h.gives("kx", ".macro m a=", "\\a kx", ".endm", "m");
        h.gives("z", ".macro kx", "z", ".endm", ".macro m a", "\\ax", ".endm",
                ".macro n a", "\\a", ".endm", "n kx");
        h.gives("x", ".macro m a", "\\a 1", "x", ".endif", ".endm", "m .if");
        h.gives("", ".macro m a", ".if 0", "\\a", "x", ".endif", ".endm", "m .endif");
        h.faults(5, 3, ".macro m a", "\\a", ".endm", "m .endif");
    }

    private static void conditions(House h) {
        h.faults(1, 5, ".macro m", ".if 1", ".else\\z", ".endif", ".endm", "m");
        h.faults(1, 5, ".macro m", ".if 1", ".elseif \\z", ".endif", ".endm", "m");
        h.faults(1, 4, ".macro m", ".if 1", ".endif\\z", ".endm", "m");
        h.gives("x", ".macro m", ".if 0", ".else\\z", "x", ".endif", ".endm", "m");
        h.gives("", ".macro m", ".if 0", ".endif\\z", ".endm", "m");
        h.gives("", ".macro m", ".if 0", ".if \\z", ".elseif \\z", ".endif", ".endif", ".endm", "m");
        h.gives("y", ".macro m", ".if 0", ".elseif 1", "y", ".else", ".elsf\\z", ".endif", ".endm",
                "m");
        h.faults(1, 5, ".macro m", ".if 0", ".elseif \\z", ".endif", ".endm", "m");
        h.gives("y", ".macro m a", ".if 0", ".elseif \\a", "y", ".endif", ".endm", "m 1");
        h.gives("y", ".macro m x", ".if 0", ".else\\x", "y", ".endif", ".endm", "m if 0");
        h.gives("", ".macro m x", ".if 1", ".else\\x", "y", ".endif", ".endm", "m if 1");
        h.faults(5, 8, ".macro m x", ".if 1", ".else\\x", "y", ".else", ".else", ".endif", ".endm",
                "m if 1");
    }

    /** An .endr or .endm that ends kept lines is one by its word in the text and doesn't come. */
    private static void ends(House h) {
        h.gives("x|x", ".macro m", ".rept 2", "x", ".endr \\z", ".endm \\z", "m");
        h.gives("p", ".rept 1", ".each w,p", "\\w", ".endr\\z", ".endr \\z");
        h.faults(1, 3, ".macro m", ".endr \\z", ".endm", "m");
        h.faults(1, 0, ".rept 1", ".endm \\z", ".endr");
    }

    private static void length(House h) {
        String fifty = House.times(50, "x");
        h.gives(House.times(300, "x"), ".macro m a", "\\a\\a\\a\\a\\a\\a", ".endm", "m " + fifty);
        h.faults(6, 3, ".macro m a", "\\a\\a\\a\\a\\a\\aY", ".endm", "m " + fifty);
        h.faults(6, 3, ".macro m a", "y\\a\\a\\a\\a\\a\\a", ".endm", "m " + fifty);
        h.faults(6, 3, ".macro m a", ".stop \\a\\a\\a\\a\\a\\a", ".endm", "m " + fifty);
        h.faults(6, 3, ".macro m a", ".endr \\a\\a\\a\\a\\a\\a", ".endm", "m " + fifty);
        h.faults(1, 3, ".macro m a", "y\\a\\a\\a\\a\\a\\a\\z", ".endm", "m " + fifty);
        h.faults(6, 3, ".macro m", House.times(301, "x"), ".endm", "m");
        h.gives("y", ".macro m a", ".if 0", "\\a\\a\\a\\a\\a\\a\\a", ".endif", "y", ".endm",
                "m " + fifty);
        h.faults(6, 0, ".rept 1", House.times(299, "x") + "\\?\\?", ".endr");
        h.gives(House.times(299, "x") + "0", ".rept 1", House.times(299, "x") + "\\?", ".endr");
        h.faults(6, 3, ".macro m a=" + House.times(1400, "z"), House.times(700, "\\a"), ".endm",
                "m");
        h.gives("", ".macro m a=", House.times(700, "\\a"), ".endm", "m");
        h.gives(House.times(290, "x"), ".macro m a", "in \\a", ".endm", ".macro in a", "\\a",
                ".endm", "m " + House.times(290, "x"));
    }

    /** Lines that are replaced one after the other, or in one another, leave each other alone. */
    private static void apart(House h) {
        MacroHouse house = h.gives("x99999999,((((((99|x99999999,((((((99|x99999999,((((((99|y",
                ".macro m a", "x99999999,((((((99", ".set k,\\a", "x99999999,((((((99", ".rept \\a",
                "x99999999,((((((99", ".endr", ".if \\a", "y", ".endif", ".endm", "m 1");
        h.same("a constant", House.constants(house), "k=1");
        String[] longer = {"-+++++++++++++++", "-,,,,,,,,,,,,,,,", "-(((((((((((((((",
            "-)))))))))))))))", "-===============", "-999999999999999", "-xxxxxxxxxxxxxxx",
            "-              x"};
        for (String x : longer) {
            h.gives(House.times(5, x + "|") + "[1]|<1>", ".macro in a", "[\\a]", ".endm",
                    ".macro m a", x, ".set k,\\a", x, ".if \\a", x, ".endif", x, ".rept \\a", ".endr",
                    x, "in \\a", ".each w,\\a", "<\\w>", ".endr", ".endm", "m 1");
        }
        h.gives("================|1;2|1", ".macro in a,b", "================", "\\a;\\b", ".endm",
                ".macro m a", "in \\a,2", "\\a", ".endm", "m 1");
        h.gives("================|1|================|2|(3)", ".macro m a,b", ".each w,\\a,\\b",
                "================", "\\w", ".endr", "(3)", ".endm", "m 1,2");
    }
}
