/** The edges that the document names of macros, calls, .rept, .each, .leave and .stop. */
public final class MacroBoundaryTest {
    public static void main(String[] args) {
        House h = new House("MacroBoundaryTest");
        parameters(h);
        unlike(h);
        defaults(h);
        macros(h);
        twice(h);
        textItself(h);
        amongLines(h);
        macroEnd(h);
        firstWord(h);
        argumentCount(h);
        emptyArguments(h);
        noParameters(h);
        brackets(h);
        rept(h);
        each(h);
        belongTogether(h);
        repetitionEnd(h);
        leave(h);
        leaveMore(h);
        stop(h);
        h.done();
    }

    private static final String[] NAMES = {"a", "b", "c", "d", "e", "f", "g", "i"};

    /** The first n names with commas between. */
    private static String names(int n) {
        return String.join(",", java.util.Arrays.copyOf(NAMES, n));
    }

    private static void parameters(House h) {
        h.says("none to six unlike WORDS with commas between");
        for (int n = 0; n <= 6; n++) {
            String head = ".macro m" + (n == 0 ? "" : " " + names(n));
            h.same(n + " parameters", h.gives("", head, ".endm").macro(0, 0), n);
        }
        for (int n = 7; n <= 8; n++) {
            h.same(n + " parameters", h.faults(1, 0, ".macro m " + names(n), ".endm").about(4), 0);
        }
        h.gives("1 6", ".macro m " + names(6), "\\a \\f", ".endm", "m 1,2,3,4,5,6");
        String[] wrong = {"m ,", "m a,", "m ,a", "m a,,b", "m a b", "m " + names(6) + ",", "m,a", "m 1",
            "m A", "m a-", "m (a)", "", "1", "A", "m\\a"};
        for (String head : wrong) {
            h.faults(1, 0, ".macro " + head, ".endm");
        }
    }

    private static void unlike(House h) {
        h.says("unlike WORDS");
        h.gives("", ".macro m a,aa,aaa,_a", ".endm");
        h.faults(1, 0, ".macro m a,a", ".endm");
        h.faults(1, 0, ".macro m a,b,c,d,e,a", ".endm");
        h.faults(1, 0, ".macro m a=1,b,a=2", ".endm");
        h.gives("1", ".macro m m", "\\m", ".endm", "m 1");
    }

    private static void defaults(House h) {
        h.says("what is behind the = up to the next comma or end, without blanks at its ends, "
                + "perhaps nothing; its signs as they stand");
        String[][] due = {{"=", ""}, {"= ", ""}, {"=x", "x"}, {" = x  y ", "x  y"}, {"==", "="},
            {"=(", "("}, {"=\\a", "\\a"}, {"=.stop", ".stop"}, {"=x # y", "x"}};
        for (String[] each : due) {
            h.gives("<" + each[1] + ">", ".macro m a" + each[0], "<\\a>", ".endm", "m");
            h.gives("<" + each[1] + ">b", ".macro m a" + each[0].replace(" # y", "") + ",b",
                    "<\\a>\\b", ".endm", "m ,b");
        }
        h.faults(1, 0, ".macro m a=(b,1)", ".endm");
        h.gives("(b1)", ".macro m a=(b,c=1)", "\\a\\c", ".endm", "m");
    }

    private static String heads(int n) {
        StringBuilder text = new StringBuilder();
        for (int k = 0; k < n; k++) {
            text.append(".macro m").append(k).append("\n.endm\n");
        }
        return text.toString();
    }

    private static void macros(House h) {
        h.says("at most 16 macros");
        MacroHouse house = h.gives("", heads(16) + "m15");
        h.same("16", house.about(4), 16);
        h.same("the last one's call", house.macro(15, 3), 1);
        house = h.faults(6, 32, heads(17));
        h.same("17", house.about(4), 16);
        h.same("its lines are looked at", house.about(2), 34);
    }

    private static void twice(House h) {
        h.says("none of a name twice; 2 a macro's name that is there already");
        h.faults(2, 2, ".macro m", ".endm", ".macro m", ".endm");
        h.faults(2, 2, ".macro m a", ".endm", ".macro m b,c", ".endm");
        h.gives("", ".macro m", ".endm", ".macro mm", ".endm", ".macro n m", ".endm");
        h.gives("", ".set m,1", ".macro m", ".endm", ".macro set", ".endm");
    }

    private static void textItself(House h) {
        h.says("Only in lines of the text itself; .macro where it isn't the text's is fault 5");
        h.gives("", ".macro m", ".endm");
        h.gives("", ".if 1", ".macro m", ".endm", ".endif");
        h.faults(5, 0, ".rept 1", ".macro m", ".endm", ".endr");
        h.faults(5, 0, ".each w,a", ".macro m", ".endm", ".endr");
        h.faults(5, 3, ".macro m a", "\\a n", ".endm", "m .macro");
        h.gives("", ".rept 0", ".macro m", ".endm", ".endr");
    }

    private static void amongLines(House h) {
        h.says("a .macro among the lines of one is fault 5");
        h.faults(5, 1, ".macro m", ".macro n", ".endm", ".endm");
        h.faults(5, 2, ".macro m", "x", "  .macro", ".endm");
        h.faults(5, 2, ".macro m", ".if 0", ".macro n", ".endif", ".endm");
        h.gives("", ".macro m", "macro n", ".macros n", "x .macro n", "# .macro n", ".endm");
    }

    private static void macroEnd(House h) {
        h.says("a .macro without its end (at its line); .endm where it can't be");
        h.gives("", ".macro m", ".endm");
        h.faults(5, 0, ".macro m");
        h.faults(5, 1, "x", ".macro m", ".endms", "endm", "# .endm", "");
        h.faults(5, 1, "x", ".endm");
        h.faults(5, 2, ".macro m", ".endm", ".endm");
        h.faults(5, 0, ".rept 1", ".endm", ".endr");
        h.says("the lines up to the next .endm are a MACRO");
        h.same("no lines", h.gives("", ".macro m", ".endm", "m").macro(0, 1), 0);
        h.same("three lines", h.gives("", ".macro m", "", ".rept 2", ".if 1", ".endm").macro(0, 1), 3);
    }

    private static void firstWord(House h) {
        h.says("A line whose first word (one of more than 12 signs is none) is a macro's name");
        String macro = ".macro abcdefghijkl\nx\n.endm";
        h.gives("x", macro, "abcdefghijkl");
        h.gives("abcdefghijklm", macro, "abcdefghijklm");
        h.gives("abcdefghijk", macro, "abcdefghijk");
        h.gives("_abcdefghijkl|Abcdefghijkl|1abcdefghijkl|-abcdefghijkl", macro, "_abcdefghijkl",
                "Abcdefghijkl", "1abcdefghijkl", "-abcdefghijkl");
        h.gives("m|x", "m", ".macro m", "x", ".endm", "m");
    }

    private static void argumentCount(House h) {
        h.says("for the parameters in order; more than there are: fault 1");
        for (int n = 1; n <= 6; n++) {
            String macro = ".macro m " + names(n) + "\n\\a \\" + NAMES[n - 1] + "\n.endm";
            h.gives("a " + NAMES[n - 1], macro, "m " + names(n));
            h.faults(1, 3, macro, "m " + names(n + 1));
            h.faults(1, 3, macro, "m " + names(n) + ",");
        }
        h.faults(1, 3, ".macro m a=", "x", ".endm", "m ,");
        h.gives("x", ".macro m a=", "x", ".endm", "m");
    }

    private static void emptyArguments(House h) {
        h.says("one that is empty, or missing at the end, is its parameter's default "
                + "(fault 1 if that has none)");
        String[] calls = {"m", "m ", "m  # x", "m ,", "m , "};
        for (String call : calls) {
            h.gives("1;2", ".macro m a=1,b=2", "\\a;\\b", ".endm", call);
            h.faults(1, 3, ".macro m a,b=2", "\\a;\\b", ".endm", call);
            h.faults(1, 3, ".macro m a=1,b", "\\a;\\b", ".endm", call);
        }
        h.gives("x;2", ".macro m a,b=2", "\\a;\\b", ".endm", "m x");
        h.gives("x;2", ".macro m a,b=2", "\\a;\\b", ".endm", "m x,");
        h.gives("1;x", ".macro m a=1,b", "\\a;\\b", ".endm", "m ,x");
        h.gives(";", ".macro m a=,b=", "\\a;\\b", ".endm", "m");
        h.gives("();0", ".macro m a,b", "\\a;\\b", ".endm", "m (),0");
    }

    private static void noParameters(House h) {
        h.says("with no parameters there may be nothing");
        h.gives("x", ".macro m", "x", ".endm", "m");
        h.gives("x", ".macro m", "x", ".endm", "  m  # y");
        String[] wrong = {" y", ",", "()", "(", ".", "\\", "=", " ,"};
        for (String rest : wrong) {
            h.faults(1, 3, ".macro m", "x", ".endm", "m" + rest);
        }
    }

    private static void brackets(House h) {
        h.says("A comma within ( ) parts nothing (( and ) must belong together within each argument)");
        String macro = ".macro m a,b=-\n\\a;\\b\n.endm";
        String[][] due = {{"(1,2)", "(1,2);-"}, {"(1,2),3", "(1,2);3"}, {"((,),,),(,)", "((,),,);(,)"},
            {"(),()", "();()"}, {"x(1,2)y,z", "x(1,2)y;z"}, {"()()", "()();-"}, {"(((())))", "(((())));-"}};
        for (String[] each : due) {
            h.gives(each[1], macro, "m " + each[0]);
        }
        String[] wrong = {"(", ")", ")(", "(1", "1)", "(1,2", "1,2)", "(,1),)", "1,(", "(()", "())", "1),(2",
            "(1,2),)(", "(1))((2)"};
        for (String arguments : wrong) {
            h.faults(1, 3, macro, "m " + arguments);
            h.faults(1, 0, ".each w," + arguments, ".endr");
        }
    }

    private static void rept(House h) {
        h.says(".rept VALUE (0 .. 100, else fault 4)");
        h.gives("", ".rept 0", "x", ".endr");
        h.gives("x", ".rept 1", "x", ".endr");
        h.same("100", h.gives("x" + House.times(99, "|x"), ".rept 100", "x", ".endr").about(2), 103);
        h.same("0", h.gives("", ".rept 0", "x", ".endr").about(2), 3);
        String[] wrong = {"-1", "101", "999999999", "-999999999*2-147483650", "99+2", "0-1"};
        for (String value : wrong) {
            h.faults(4, 0, ".rept " + value, "x", ".endr");
        }
        h.faults(1, 0, ".rept", ".endr");
        h.faults(1, 0, ".rept 1,2", ".endr");
        h.faults(3, 0, ".rept zz", ".endr");
    }

    private static void each(House h) {
        h.says(".each WORD,TEXT,TEXT .. (one TEXT or some, like arguments, perhaps empty)");
        h.gives("<>", ".each w,", "<\\w>", ".endr");
        h.gives("<x>", ".each w,x", "<\\w>", ".endr");
        h.gives("<>|<>", ".each w,,", "<\\w>", ".endr");
        h.gives("<x>|<>|<y>", ".each w , x , , y ", "<\\w>", ".endr");
        h.gives("<(,)>|<z>", ".each w,(,),z", "<\\w>", ".endr");
        MacroHouse house = House.with(".each w," + House.times(100, ",") + "\n\\?\n.endr");
        h.same("101 texts", house.expand(), 101);
        String[] wrong = {"", " w", " ,x", ",", " 1,x", " W,x", " w x", " w=,x", " w w,x"};
        for (String rest : wrong) {
            h.faults(1, 0, ".each" + rest, ".endr");
        }
    }

    private static void belongTogether(House h) {
        h.says(".rept, .each and .endr belong together like brackets, by first words as they stand");
        h.gives("x|x|y|x|x|y", ".rept 2", ".each w,1,2", "x", ".endr", "y", ".endr");
        h.gives("", ".rept 0", ".rept (", ".each", ".endr", ".endr", ".endr");
        h.faults(5, 0, ".rept 0", ".rept", ".each", ".endr", ".endr");
        h.faults(5, 4, ".rept 0", ".rept", ".endr", ".endr", ".endr");
        h.gives("x", ".macro m a", ".rept 1", "x", ".endr\\a", ".endm", "m y");
        h.faults(5, 4, ".macro m a", ".rept 1", "\\a", ".endm", "m .endr");
        h.faults(5, 0, ".each w,endr", ".rept 1", ".\\w", ".endr");
        h.gives("", ".rept 0", ".repts", ".endrs", "rept", ".endr");
    }

    private static void repetitionEnd(House h) {
        h.says("a .rept, .each without its end (at its line); .endr where it can't be");
        String[] heads = {".rept 0", ".rept 1", ".each w,x"};
        for (String head : heads) {
            h.gives("", head, ".endr");
            h.faults(5, 0, head);
            h.faults(5, 1, "x", head, "y", "");
            h.faults(5, 0, head, ".endrs", "# .endr");
            h.faults(5, 0, head, ".rept 1", ".endr");
            h.faults(5, 2, head, ".endr", ".endr");
            h.faults(5, 3, ".macro m", head, ".endm", "m", ".endr");
        }
        h.faults(5, 0, ".endr");
        h.faults(5, 3, ".macro m", ".endr", ".endm", "m");
    }

    private static void leave(House h) {
        h.says(".leave (alone); outside of macros fault 5");
        h.gives("x", ".macro m", "x", ".leave", "y", ".endm", "m");
        h.gives("x", ".macro m", "x", ".leave # z", "y", ".endm", "m");
        h.faults(5, 0, ".leave");
        h.faults(5, 0, ".rept 1", ".leave", ".endr");
        h.faults(5, 0, ".each w,a", ".leave", ".endr");
        h.faults(5, 4, ".macro m", ".leave", ".endm", "m", ".leave");
        h.faults(1, 3, ".macro m", ".leave x", ".endm", "m");
        h.faults(1, 3, ".macro m", ".leave,", ".endm", "m");
        h.faults(1, 0, ".leave x");
    }

    private static void leaveMore(House h) {
        h.says("no more lines of the innermost macro that is open come (also of .repts and .eaches "
                + "in it; .ifs that were opened in it are closed)");
        MacroHouse house = h.gives("x|z", ".macro m", ".rept 2", ".each w,1,2", ".if 1", "x", ".leave",
                ".endif", ".endr", ".endr", "y", ".endm", "m", "z");
        h.same("open behind it", house.line(1, 2), 0);
        h.same("what is left isn't looked at", house.about(2), 11 + 1 + 8 + 6 + 3 + 1);
        h.gives("x|y", ".macro in", ".leave", ".endm", ".macro m", "x", "in", "y", ".endm", "m");
        h.gives("x|x|y", ".macro m", "x", ".leave", ".endm", ".rept 2", "m", ".endr", "y");
        h.gives("x|y", ".if 1", ".macro m", ".if 1", "x", ".leave", ".endm", "m", "y", ".endif");
        h.faults(5, 1, ".if 1", ".rept 1", ".if 1", ".endr", ".endif");
    }

    private static void stop(House h) {
        h.says("7 a .stop that comes");
        h.faults(7, 0, ".stop");
        h.faults(7, 0, ".stop x, ( y");
        h.faults(7, 0, ".stop(");
        h.faults(7, 3, ".macro m", ".stop", ".endm", "m");
        h.gives("", ".macro m", ".stop", ".endm");
        h.gives("", ".if 0", ".stop", ".endif");
        h.gives("", ".rept 0", ".stop", ".endr");
        h.gives("", ".macro m", ".leave", ".stop", ".endm", "m");
        h.faults(1, 0, ".stopx");
    }
}
