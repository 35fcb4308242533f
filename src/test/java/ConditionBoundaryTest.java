/** The edges that the document names of .set, .forget and the .ifs, sentence by sentence. */
public final class ConditionBoundaryTest {
    public static void main(String[] args) {
        House h = new House("ConditionBoundaryTest");
        set(h);
        forget(h);
        constants(h);
        ifValue(h);
        ifSame(h);
        elseIf(h);
        elseIfValue(h);
        notComing(h);
        firstWords(h);
        replacedFirst(h);
        nothingElse(h);
        nothingElseOfReplaced(h);
        elseIfReplaced(h);
        open(h);
        openInLinesThatDontCome(h);
        openAround(h);
        closed(h);
        noneButThese(h);
        outOfPlace(h);
        h.done();
    }

    private static void set(House h) {
        h.says(".set WORD,VALUE: a constant (in place of what it was)");
        h.same("once", House.constants(h.gives("", ".set a,1")), "a=1");
        h.same("twice", House.constants(h.gives("", ".set a,1", ".set a,a+1")), "a=2");
        String[] wrong = {"", " ", " a", " a,", " ,1", ",", " 1", " a 1", " a,1,", " a,1 1", " a b,1",
            " a=1", " 1,1"};
        for (String rest : wrong) {
            h.same("no constant", h.faults(1, 0, ".set" + rest).about(5), 0);
        }
    }

    private static void forget(House h) {
        h.says(".forget WORD: it is none any more (fault 3 if it was none)");
        h.same("forgotten", h.gives("", ".set a,1", ".forget a").about(5), 0);
        h.faults(3, 0, ".forget a");
        h.faults(3, 1, ".set aa,1", ".forget a");
        h.faults(3, 1, ".set a,1", ".forget aa");
        h.faults(3, 2, ".set a,1", ".forget a", ".forget a");
        h.gives("", ".set a,1", ".forget a", ".set a,1", ".forget a");
        String[] wrong = {"", " 1", " a b", " a,", " A"};
        for (String rest : wrong) {
            h.same("it stays", h.faults(1, 1, ".set a,1", ".forget" + rest).about(5), 1);
        }
    }

    private static String sets(int n) {
        StringBuilder text = new StringBuilder();
        for (int k = 0; k < n; k++) {
            text.append(k == 0 ? "" : "\n").append(".set k").append(k).append(",1");
        }
        return text.toString();
    }

    private static void constants(House h) {
        h.says("6 something is too much: also more than 64 constants");
        h.same("64", h.gives("", sets(64)).about(5), 64);
        h.same("65", h.faults(6, 64, sets(65)).about(5), 64);
        h.same("one of the 64", h.gives("", sets(64), ".set k0,2").constant(0, 0), 2);
        h.same("in place of a forgotten one", h.gives("", sets(64), ".forget k9", ".set l,1").about(5),
                64);
        h.faults(6, 66, sets(64), ".forget k9", ".set l,1", ".set k9,1");
    }

    private static void ifValue(House h) {
        h.says("come only if the value isn't 0, those behind .else otherwise");
        String[] values = {"1", "-1", "999999999", "-999999999*2-147483650", "1==1"};
        for (String value : values) {
            h.gives("x", ".if " + value, "x", ".else", "y", ".endif");
        }
        h.gives("y", ".if 0", "x", ".else", "y", ".endif");
        h.gives("y", ".if 1<1", "x", ".else", "y", ".endif");
        h.gives("", ".if 1", ".endif");
        h.gives("", ".if 0", ".else", ".endif");
        h.faults(1, 0, ".if", ".endif");
        h.faults(1, 0, ".if 1 1", ".endif");
    }

    private static void ifSame(House h) {
        h.says("the two texts, parted by the first comma, without blanks at their ends, are the same");
        String[] same = {"a,a", " , ", ",", "  a  ,  a  ", "a b,a b", ")(,)("};
        for (String texts : same) {
            h.gives("x", ".ifsame " + texts, "x", ".else", "y", ".endif");
        }
        String[] unlike = {"a,", ",a", "a,aa", "aa,a", "a,b", "ab,aa", "a b,a  b", "a,a,", ",,", "a,A",
            "(a,a),(a,a)"};
        for (String texts : unlike) {
            h.gives("y", ".ifsame " + texts, "x", ".else", "y", ".endif");
        }
        h.faults(1, 0, ".ifsame", ".endif");
        h.faults(1, 0, ".ifsame a", ".endif");
        h.faults(1, 0, ".ifsame a#,a", ".endif");
    }

    private static void elseIf(House h) {
        h.says(".elseif VALUE, once or more ahead of .else");
        h.gives("1", ".if 0", ".elseif 1", "1", ".endif");
        h.gives("2", ".if 0", ".elseif 0", "1", ".elseif 1", "2", ".elseif 1", "3", ".endif");
        h.gives("e", ".if 0", ".elseif 0", "1", ".elseif 0", "2", ".else", "e", ".endif");
        h.faults(5, 2, ".if 0", ".else", ".elseif 1", ".endif");
        h.faults(5, 2, ".if 1", ".else", ".elseif 1", ".endif");
        h.faults(5, 2, ".if 0", ".else", ".else", ".endif");
        h.faults(5, 2, ".if 1", ".else", ".else", ".endif");
        h.faults(5, 3, ".if 0", ".elseif 1", ".else", ".else", ".endif");
    }

    private static void elseIfValue(House h) {
        h.says("come if none of what is ahead of it came, and the value isn't 0 (looked at only then)");
        h.gives("x", ".if 1", "x", ".elseif (", "y", ".elseif zz", ".elseif 1/0", ".endif");
        h.gives("x", ".if 0", ".elseif 1", "x", ".elseif (", "y", ".endif");
        h.faults(1, 1, ".if 0", ".elseif (", ".endif");
        h.faults(1, 1, ".if 0", ".elseif", ".endif");
        h.faults(3, 1, ".if 0", ".elseif zz", ".endif");
        h.faults(4, 2, ".if 0", ".elseif 0", ".elseif 1/0", ".endif");
        h.gives("", ".if 0", ".if 0", ".elseif (", ".endif", ".endif");
        h.gives("x", ".if 0", ".elseif -1", "x", ".endif");
    }

    private static void notComing(House h) {
        h.says("In lines that don't come only these five are looked at");
        String[] others = {".set", ".forget zz", ".macro", ".macro m", ".endm", ".rept", ".rept 2",
            ".each", ".endr", ".leave", ".stop", ".foo", ".", "m", "x", "\\"};
        for (String line : others) {
            h.gives("z", ".macro m", ".stop", ".endm", ".if 0", line, ".endif", "z");
            h.gives("z", ".macro m", ".stop", ".endm", ".if 1", "z", ".else", line, ".endif");
        }
        h.gives("z", ".if 0", ".if", "x", ".else", "x", ".endif", "x", ".else", "z", ".endif");
        h.gives("z", ".if 0", ".ifsame", "x", ".elseif", "x", ".endif", "x", ".else", "z", ".endif");
    }

    private static void firstWords(House h) {
        h.says("by their first words as they stand in the text");
        h.gives("a", ".macro m x", ".if 0", ".else\\x", "a", ".endif", ".endm", "m if 0");
        h.gives("", ".macro m x", ".if 0", ".endif\\x", ".endm", "m y");
        h.gives("", ".macro m x", ".if 0", "\\x", "a", ".endif", ".endm", "m .endif");
        h.gives("", ".macro m x", ".if 0", ".\\x", "a", ".endif", ".endm", "m else");
        h.gives("", ".macro m x", ".if 0", ".if\\x", "a", ".endif", ".endif", ".endm", "m y");
        h.gives("y", ".macro m x", ".if 0", ".elseif\\x", "y", ".endif", ".endm", "m 1");
        h.gives("", ".if 0", ".endifs", ".else1", ".endif");
    }

    private static void replacedFirst(House h) {
        h.says("A line that is given, and that comes, is replaced first; then its first word counts");
        h.gives("b", ".macro m x", ".if 1", ".else\\x", "a", ".else", "c", ".endif", "b", ".endm",
                "m if 1");
        h.gives("a", ".macro m x", "\\x 1", "a", ".endif", ".endm", "m .if");
        h.gives("a", ".macro m x", ".\\x 1", "a", ".endif", ".endm", "m if");
        h.gives("a", ".macro m x", ".if 1", "a", "\\x", ".endm", "m .endif");
        h.faults(1, 3, ".macro m x", ".if\\x", ".endm", "m s 1");
        h.gives("in", ".macro n", "in", ".endm", ".macro m x", "\\x", ".endm", "m n");
    }

    private static void nothingElse(House h) {
        h.says("Of .else, .endif, .endm, .endr nothing else of the line is looked at");
        String[] rests = {" x", "(", ",", " \\", "\\z", " 1/0", "." };
        for (String rest : rests) {
            h.gives("y", ".if 0", "x", ".else" + rest, "y", ".endif" + rest);
            h.gives("x", ".if 1", "x", ".else" + rest, "y", ".endif" + rest);
            h.gives("x", ".macro m", "x", ".endm" + rest, "m");
            h.gives("x", ".rept 1", "x", ".endr" + rest);
            h.faults(5, 0, ".else" + rest);
            h.faults(5, 0, ".endif" + rest);
            h.faults(5, 0, ".endm" + rest);
            h.faults(5, 0, ".endr" + rest);
        }
    }

    private static void nothingElseOfReplaced(House h) {
        h.says("(but that it is replaced: faults 1 and 6 of that)");
        String[] words = {".else", ".endif"};
        for (String word : words) {
            String[] behind = word.equals(".else") ? new String[] {".endif"} : new String[0];
            given(h, 0, word + " x (", behind);
            given(h, 1, word + "\\z", behind);
            given(h, 1, word + " \\", behind);
            given(h, 0, word + House.times(300 - word.length(), "."), behind);
            given(h, 6, word + House.times(301 - word.length(), "."), behind);
            given(h, 1, word + House.times(301 - word.length(), ".") + "\\z", behind);
        }
        h.faults(1, 3, ".macro m x", ".endr\\z", ".endm", "m 1");
        h.faults(5, 3, ".macro m x", ".endr \\x", ".endm", "m 1");
        h.faults(1, 0, ".rept 1", ".endm\\z", ".endr");
        h.faults(5, 0, ".rept 1", ".endm \\?", ".endr");
    }

    /** A condition that comes and then the line, in a macro and in a .rept. */
    private static void given(House h, int kind, String line, String... behind) {
        String lines = House.lines(".if 1", line, House.lines(behind));
        if (kind == 0) {
            h.gives("", ".macro m", lines, ".endm", "m");
            h.gives("", ".rept 2", lines, ".endr");
            return;
        }
        h.faults(kind, 0, ".rept 1", lines, ".endr");
        h.faults(kind, 5, ".macro m", lines, ".endm", "m");
    }

    private static void elseIfReplaced(House h) {
        h.says("an .elseif only if none ahead of it came and its .if's line came (then it is replaced)");
        h.gives("y", ".macro m x", ".if 0", ".elseif \\x", "y", ".endif", ".endm", "m 1");
        h.gives("", ".macro m x", ".if 0", ".elseif \\x", "y", ".endif", ".endm", "m 0");
        h.faults(1, 5, ".macro m x", ".if 0", ".elseif \\z", ".endif", ".endm", "m 0");
        h.gives("", ".macro m x", ".if 0", ".if 0", ".elseif \\z", ".endif", ".endif", ".endm", "m 1");
        h.gives("", ".macro m x", ".if 1", ".if 1", ".endif", ".elseif 1/0", ".elseif \\z", ".endif",
                ".endm", "m 1");
        h.gives("", ".rept 1", ".if 0", ".elseif " + House.times(291, " ") + "0", ".endif", ".endr");
        h.faults(6, 0, ".rept 1", ".if 0", ".elseif " + House.times(292, " ") + "0", ".endif", ".endr");
    }

    private static String ifs(int n, String line, String inner) {
        return House.times(n, line + "\n") + inner + House.times(n, "\n.endif");
    }

    private static void open(House h) {
        h.says("At most 8 are open in one another");
        h.gives("x", ifs(8, ".if 1", "x"));
        h.faults(6, 8, ifs(9, ".if 1", "x"));
        h.gives("x", ifs(8, ".ifsame a,a", "x"));
        h.faults(6, 8, ifs(9, ".ifsame a,a", "x"));
        h.gives("x|y", ifs(8, ".if 1", "x"), ifs(8, ".if 1", "y"));
        h.gives("y|x", ifs(7, ".if 1", ".if 1\ny\n.endif\n.if 1\nx\n.endif"));
        h.gives("", ifs(8, ".if 1", ".else"));
        h.faults(6, 8, ifs(8, ".if 1", ".if 0\n.else\n.endif"));
    }

    private static void openInLinesThatDontCome(House h) {
        h.says("At most 8 are open in one another, in lines that don't come too");
        h.gives("", ifs(8, ".if 0", "x"));
        h.faults(6, 8, ifs(9, ".if 0", "x"));
        h.faults(6, 8, ifs(8, ".if 0", ".ifsame\n.endif"));
        h.faults(6, 8, ifs(8, ".if 0", ".if (\n.endif"));
    }

    private static void openAround(House h) {
        h.says("At most 8 are open in one another, those around a call too");
        String macro = House.lines(".macro m", ".if 1", "x", ".endif", ".endm\n");
        h.gives("x", macro + ifs(7, ".if 1", "m"));
        h.faults(6, 13, macro + ifs(8, ".if 1", "m"));
        h.gives("x", ifs(7, ".if 1", ".rept 1\n.if 1\nx\n.endif\n.endr"));
        h.faults(6, 8, ifs(8, ".if 1", ".rept 1\n.if 1\nx\n.endif\n.endr"));
        h.says(".ifs that were opened in it are closed");
        String left = House.lines(".macro m", House.times(4, ".if 1\n") + ".leave", ".endm\n");
        h.gives("x", left + ifs(4, ".if 1", House.times(3, "m\n") + ifs(4, ".if 1", "x")));
        h.faults(6, 16, left + ifs(4, ".if 1", "m\n" + ifs(5, ".if 1", "x")));
    }

    private static void closed(House h) {
        h.says("Each must close the .ifs that it opens");
        String[] opened = {".if 1", ".if 0", ".if 1\n.else", ".if 0\n.elseif 1", ".ifsame a,b"};
        for (String lines : opened) {
            int more = lines.split("\n").length;
            h.faults(5, 2 + more, ".macro m", lines, ".endm", "m", ".endif");
            h.gives("", ".macro m", lines, ".endif", ".endm", "m");
            h.faults(5, 0, ".rept 1", lines, ".endr", ".endif");
            h.gives("", ".rept 1", lines, ".endif", ".endr");
            h.faults(5, 0, ".each w,a", lines, ".endr", ".endif");
            h.gives("", ".each w,a", lines, ".endif", ".endr");
            h.faults(5, 1, "x", lines);
            h.gives("x", "x", lines, ".endif");
        }
        h.says("an .if that is open at its range's end (at its line; of several the one opened last)");
        h.faults(5, 2, ".if 1", "", ".if 1", "");
        h.faults(5, 0, ".if 1", "", ".if 1", ".endif");
        h.faults(5, 1, ".if 0", ".if 0");
        h.faults(5, 4, ".macro m", ".if 1", ".endm", "", "m");
        h.faults(5, 5, ".macro m", ".if 1", ".endm", ".if 1", "", "m", ".endif");
    }

    private static void noneButThese(House h) {
        h.says("and none but these");
        String[] lines = {".endif", ".else", ".elseif 1", ".elseif ("};
        for (String line : lines) {
            h.faults(5, 4, ".macro m", line, ".endm", ".if 1", "m", ".endif");
            h.faults(5, 1, ".if 1", ".rept 1", line, ".endr", ".endif");
            h.faults(5, 1, ".if 1", ".each w,a", line, ".endr", ".endif");
            h.faults(5, 1, ".if 1", ".rept 1", ".if 1", ".endif", line, ".endr", ".endif");
        }
        h.gives("x", ".if 1", ".rept 1", ".if 0", ".elseif 0", ".else", "x", ".endif", ".endr",
                ".endif");
    }

    private static void outOfPlace(House h) {
        h.says("5 what is opened or closed where it can't be: .else .elseif .endif");
        String[] lines = {".else", ".elseif 1", ".elseif", ".endif"};
        for (String line : lines) {
            h.faults(5, 0, line);
            h.faults(5, 2, ".if 1", ".endif", line);
            h.faults(5, 2, ".if 0", ".endif", line);
        }
        h.gives("", ".if 1", ".endif");
    }
}
