/** The edges that the document names of what is replaced, and of what is open in one another. */
public final class ReplacedBoundaryTest {
    public static void main(String[] args) {
        House h = new House("ReplacedBoundaryTest");
        words(h);
        innermost(h);
        upToTheCall(h);
        calledAhead(h);
        timesAhead(h);
        anyOther(h);
        textItself(h);
        length(h);
        lengthOfAll(h);
        lengthOfDeepest(h);
        lengthAndForm(h);
        openRepts(h);
        openOfAllKinds(h);
        openNone(h);
        openAgain(h);
        h.done();
    }

    private static void words(House h) {
        h.says("a \\ and a word (as many signs as there are)");
        h.gives("1", ".macro m a", "\\a", ".endm", "m 1");
        h.gives("1.1-1A1(1", ".macro m a", "\\a.\\a-\\aA\\a(\\a", ".endm", "m 1");
        h.gives("21", ".macro m a,ab", "\\ab\\a", ".endm", "m 1,2");
        String[] longer = {"\\aa", "\\a1", "\\a_", "\\abc"};
        for (String line : longer) {
            h.faults(1, 3, ".macro m a,ab", line, ".endm", "m 1,2");
        }
        h.gives("1", ".macro m abcdefghijkl", "\\abcdefghijkl", ".endm", "m 1");
        h.faults(1, 3, ".macro m abcdefghijkl", "\\abcdefghijklm", ".endm", "m 1");
    }

    private static void innermost(House h) {
        h.says("by the text of the innermost open .each's word of that name");
        h.gives("1|2|x|1|2|y", ".each w,x,y", ".each w,1,2", "\\w", ".endr", "\\w", ".endr");
        h.gives("x1|x2", ".each v,x", ".each w,1,2", "\\v\\w", ".endr", ".endr");
        h.gives("x", ".each v,x", ".rept 1", "\\v", ".endr", ".endr");
        h.faults(1, 0, ".each v,x", ".each w,1", ".endr", "\\w", ".endr");
    }

    private static void upToTheCall(House h) {
        h.says("up to the macro's call around it, or of that macro's parameter");
        h.gives("e|p", ".macro m a", ".each a,e", "\\a", ".endr", "\\a", ".endm", "m p");
        h.gives("pe", ".macro m a", ".each w,e", "\\a\\w", ".endr", ".endm", "m p");
        h.faults(1, 3, ".macro m", "\\w", ".endm", ".each w,e", "m", ".endr");
        h.faults(1, 6, ".macro in", "\\a", ".endm", ".macro m a", "in", ".endm", "m p");
        h.gives("q|p", ".macro in a", "\\a", ".endm", ".macro m a", "in q", "\\a", ".endm", "m p");
        h.gives("e", ".macro m a", "\\a", ".endm", ".each w,e", "m \\w", ".endr");
    }

    private static void calledAhead(House h) {
        h.says("\\ and @ by the number of macros that were called ahead of that call "
                + "(outside of macros fault 1)");
        h.gives("0|1", ".macro m", "\\@", ".endm", "m", "m");
        h.gives("1|0", ".macro in", "\\@", ".endm", ".macro m", "in", "\\@", ".endm", "m");
        h.gives("0|0", ".macro m", ".rept 2", "\\@", ".endr", ".endm", "m");
        h.gives("9|10", ".macro m", ".if 9<=\\@", "\\@", ".endif", ".endm", ".rept 11", "m", ".endr");
        h.faults(1, 0, ".rept 1", "\\@", ".endr");
        h.faults(1, 0, ".each w,a", "\\@", ".endr");
        h.faults(1, 4, ".macro m", "\\@", ".endm", "m", ".rept 1", "\\@", ".endr");
    }

    private static void timesAhead(House h) {
        h.says("\\ and ? by the times that the innermost .rept or .each gave its lines ahead of this "
                + "(fault 1 without one in the macro, or the text)");
        h.gives("0|1|2", ".rept 3", "\\?", ".endr");
        h.gives("0|1", ".each w,a,b", "\\?", ".endr");
        h.gives("0|1|0|0|1|1", ".rept 2", ".each w,a,b", "\\?", ".endr", "\\?", ".endr");
        h.gives("0|1", ".macro m", ".rept 2", "\\?", ".endr", ".endm", "m");
        h.same("the last of 100", House.out(h.gives("99", ".rept 100", ".if \\?==99", "\\?", ".endif",
                ".endr")), "99");
        h.faults(1, 3, ".macro m", "\\?", ".endm", "m");
        h.faults(1, 3, ".macro m", "\\?", ".endm", ".rept 1", "m", ".endr");
        h.faults(1, 5, ".macro m", ".rept 1", ".endr", "\\?", ".endm", "m");
    }

    private static void anyOther(House h) {
        h.says("Any other \\ there is fault 1");
        String[] others = {"\\", "x\\", "\\ a", "\\\\", "\\\\a", "\\1", "\\A", "\\b", "\\.", "\\a\\",
            "\\(a)", "\\,"};
        for (String line : others) {
            h.faults(1, 3, ".macro m a", line, ".endm", "m 1");
            h.faults(1, 0, ".rept 1", line, ".endr");
            h.faults(1, 0, ".each a,1", line, ".endr");
            h.gives("", ".macro m a", ".if 0", line, ".endif", ".endm", "m 1");
        }
        h.gives("\\|\\b|\\@", ".macro m a", "\\a", ".endm", "m \\", "m \\b", "m \\@");
    }

    private static void textItself(House h) {
        h.says("In lines of the text itself that no macro, .rept or .each gives nothing is replaced");
        h.gives("\\|\\a|\\@|\\?", "\\", "\\a", "\\@", "\\?");
        h.gives("\\a|1", ".macro m a", "\\a", ".endm", "\\a", "m 1");
        h.gives("0|\\?", ".rept 1", "\\?", ".endr", "\\?");
        h.faults(1, 0, ".set k,\\?");
    }

    private static void length(House h) {
        h.says("A line has at most 300 signs then (else fault 6)");
        for (int n = 299; n <= 302; n++) {
            String line = House.times(n, ".").replaceFirst(".", "x");
            given(h, line, ".rept 1", line);
            given(h, line, ".each w,1", line);
            given(h, line, ".each w," + line.substring(100), "x" + House.times(49, ".") + "\\w"
                    + House.times(50, "."));
            given(h, line + "0", ".rept 1", line + "\\?");
        }
        h.gives(House.times(300, "x"), ".macro m a", "\\a\\a\\a", ".endm", "m " + House.times(100, "x"));
        h.faults(6, 3, ".macro m a", "\\a\\a\\a.", ".endm", "m " + House.times(100, "x"));
        h.gives("", ".macro m a=", House.times(600, "\\a"), ".endm", "m");
    }

    /** The repeated line must give due, if that has at most 300 signs. */
    private static void given(House h, String due, String head, String line) {
        if (due.length() <= 300) {
            h.gives(due, head, line, ".endr");
        } else {
            h.faults(6, 0, head, line, ".endr");
        }
    }

    private static void lengthOfAll(House h) {
        h.says("A line has at most 300 signs then: each that comes, and no other");
        String[] heads = {".set k,", ".if 1+", ".rept 1+", ".stop ", "x", ".ifsame ,"};
        for (String head : heads) {
            String line = head + House.times(300 - head.length(), " ") + "0";
            h.faults(6, 0, ".rept 1", line, ".endr", ".endr");
        }
        String set = ".set k," + House.times(292, " ") + "1";
        h.same("a .set of 300", h.gives("", ".rept 1", set, ".endr").constant(0, 0), 1);
        h.gives("", ".rept 1", ".if 0", House.times(301, "x"), ".endif", ".endr");
        h.gives("", ".rept 0", House.times(301, "x"), ".endr");
        h.gives("", ".macro m", House.times(301, "x"), ".endm");
        h.gives(House.times(301, "x"), House.times(301, "x"));
        h.gives("x", ".macro m", ".leave", House.times(301, "x"), ".endm", "m", "x");
    }

    private static void lengthOfDeepest(House h) {
        h.says("A line has at most 300 signs then: where 12 are open too");
        String half = House.times(145, "x");
        h.gives(House.times(300, "x"), repts(12, House.times(300, "x")));
        h.faults(6, 0, repts(12, House.times(301, "x")));
        h.gives("y", repts(12, ".ifsame  " + half + "," + half + "\ny\n.endif"));
        h.gives("", repts(12, ".ifsame  " + half + "," + half.replaceFirst("x$", "z") + "\ny\n.endif"));
        h.gives("x", repts(11, ".each w,\nx" + House.times(299, " ") + "\\w\n.endr"));
        h.faults(6, 0, repts(11, ".each w,\nx" + House.times(300, " ") + "\\w\n.endr"));
    }

    private static void lengthAndForm(House h) {
        h.says("of one line the least of these kinds: 1 ahead of 6");
        h.faults(1, 0, ".rept 1", House.times(300, "x") + "\\z", ".endr");
        h.faults(1, 0, ".rept 1", House.times(301, "x") + "\\z", ".endr");
        h.faults(1, 0, ".rept 1", "\\z" + House.times(301, "x"), ".endr");
        h.faults(6, 0, ".rept 1", House.times(300, "x") + "\\?", ".endr");
    }

    private static String repts(int n, String inner) {
        return House.times(n, ".rept 1\n") + inner + House.times(n, "\n.endr");
    }

    private static void openRepts(House h) {
        h.says("At most 12 macros, .repts and .eaches are open in one another");
        MacroHouse house = h.gives("x", repts(12, "x"));
        h.same("the most", house.about(8), 12);
        h.same("open at the line", house.line(0, 2), 12);
        house = h.faults(6, 0, repts(13, "x"));
        h.same("the most of 13", house.about(8), 12);
    }

    private static void openOfAllKinds(House h) {
        h.says("At most 12 macros, .repts and .eaches are open: of each kind, in each order");
        String macro = ".macro m\nx\n.endm\n";
        String[] last = {"m", ".rept 1\nx\n.endr", ".rept 100\nx\n.endr", ".each w,\nx\n.endr"};
        for (String inner : last) {
            MacroHouse house = House.with(macro + repts(11, inner));
            h.same("the twelfth " + inner, house.expand() > 0, true);
            h.same("open", house.line(0, 2), 12);
            house = h.faults(6, 3, macro + repts(12, inner));
            h.same("nothing went out", house.about(6), 0);
        }
        MacroHouse house = h.faults(6, 3, ".macro m", "m", ".endm", "m");
        h.same("twelve were called", house.about(3), 12);
        h.same("twelve calls of it", house.macro(0, 3), 12);
        house = h.faults(6, 0, House.times(13, ".each w,a\n") + House.times(13, ".endr\n"));
        h.same("twelve were open", house.about(8), 12);
        h.gives("x", ".macro m", repts(6, "x"), ".endm", repts(5, "m"));
        h.faults(6, 15, ".macro m", repts(6, "x"), ".endm", repts(6, "m"));
    }

    private static void openNone(House h) {
        h.says("(a .rept of 0 times opens none)");
        h.same("none", h.gives("", ".rept 0", "x", ".endr").about(8), 0);
        h.same("one", h.gives("", ".rept 1", ".endr").about(8), 1);
        h.same("twelve", h.gives("y", repts(12, ".rept 0\nx\n.endr\ny")).about(8), 12);
        h.faults(6, 0, repts(12, ".rept 1\n.endr\ny"));
        h.faults(6, 0, repts(12, ".each w,\n.endr\ny"));
        h.faults(6, 2, ".macro m", ".endm", repts(12, "m"));
    }

    private static void openAgain(House h) {
        h.says("8 the most that were open in one another");
        h.same("none", h.gives("x", "x").about(8), 0);
        h.same("one behind another", h.gives("x|y", repts(1, "x"), repts(1, "y")).about(8), 1);
        h.same("the most first", h.gives("x|y", repts(3, "x"), repts(2, "y")).about(8), 3);
        h.same("the most last", h.gives("x|y", repts(2, "x"), repts(3, "y")).about(8), 3);
        h.gives("x|y", repts(12, "x"), repts(12, "y"));
        h.gives("x|y", repts(11, ".rept 1\nx\n.endr\n.rept 1\ny\n.endr"));
        h.same("closed by .leave", h.gives("x|x", ".macro m", repts(11, "x\n.leave"), ".endm", "m", "m")
                .about(8), 12);
    }
}
