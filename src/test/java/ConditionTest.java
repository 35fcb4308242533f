/** Promise 4, .if, .ifsame, .elseif, .else and .endif. */
public final class ConditionTest {
    public static void main(String[] args) {
        House h = new House("ConditionTest");
        parts(h);
        same(h);
        passed(h);
        notLookedAt(h);
        outOfPlace(h);
        given(h);
        tooMany(h);
        h.done();
    }

    private static void parts(House h) {
        h.gives("a", ".if 1", "a", ".endif");
        h.gives("", ".if 0", "a", ".endif");
        h.gives("a", ".if -5", "a", ".else", "b", ".endif");
        h.gives("b", ".if 0", "a", ".else", "b", ".endif");
        for (int k = 0; k < 4; k++) {
            String due = k < 3 ? String.valueOf(k) : "else";
            h.gives(due, ".set k," + k, ".if k==0", "0", ".elseif k==1", "1", ".elseif k==2", "2",
                    ".else", "else", ".endif");
        }
        h.gives("a", ".if 1", "a", ".elseif 1", "b", ".else", "c", ".endif");
        h.gives("b", ".if 0", "a", ".elseif 1", "b", ".elseif 1", "c", ".else", "d", ".endif");
        h.gives("a|b|d|e", ".if 1", "a", ".if 1", "b", ".else", "c", ".endif", "d", ".endif", "e");
        h.gives("x", ".if(1)", "x", ".endif");
        h.gives("x", ".if-1", "x", ".endif");
        h.gives("", ".if?k", "x", ".endif");
        h.gives("x", ".if 0", ".elseif(1)", "x", ".endif");
    }

    private static void same(House h) {
        String[] same = {"a,a", " a b , a b ", ",", "  ,", "(a,(a"};
        for (String texts : same) {
            h.gives("x", ".ifsame " + texts, "x", ".else", "y", ".endif");
        }
        String[] unlike = {"a,b", "a,", ",a", "a,a,a", "a b,a  b", "a,A", "aa,a", "(a,b),(a,b)"};
        for (String texts : unlike) {
            h.gives("y", ".ifsame " + texts, "x", ".else", "y", ".endif");
        }
        h.faults(1, 0, ".ifsame", ".endif");
        h.faults(1, 0, ".ifsame a", ".endif");
        h.gives("x", ".ifsame,", "x", ".endif");
    }

    private static void passed(House h) {
        h.gives("z", ".if 0", ".if 1", "a", ".else", "b", ".endif", ".if 0", ".elseif 1", "c",
                ".endif", ".ifsame a,a", "d", ".endif", ".endif", "z");
        MacroHouse house = h.gives("z", ".if 0", ".foo", ".macro m", ".rept 2", ".endm", ".endr",
                ".set", ".leave", ".stop", "m", ".endif", "z");
        h.same("lines looked at", house.about(2), 12);
        h.gives("z", ".if 0", ".endifx", ".endif", "z");
        h.faults(5, 3, ".if 0", ".rept 2", ".endif", ".endr");
    }

    private static void notLookedAt(House h) {
        h.gives("a", ".if 1", "a", ".elseif zz", ".elseif (", ".else (", "b", ".endif (");
        h.gives("b", ".if 0", "a", ".else if 1", "b", ".endif,");
        h.gives("", ".if 0", ".if (", ".elseif (", ".else", ".endif", ".endif");
        h.faults(3, 1, ".if 0", ".elseif zz", ".endif");
        h.faults(1, 1, ".if 0", ".elseif", ".endif");
        h.faults(4, 2, ".if 0", ".elseif 0", ".elseif 1/0", ".endif");
        h.gives("b", ".if 0", ".elseif 1", "b", ".elseif 1/0", ".endif");
    }

    private static void outOfPlace(House h) {
        h.faults(5, 1, "x", ".else");
        h.faults(5, 1, "x", ".elseif (");
        h.faults(5, 1, "x", ".endif");
        h.faults(5, 2, ".if 1", ".endif", ".endif");
        h.faults(5, 2, ".if 1", ".else", ".else", ".endif");
        h.faults(5, 2, ".if 0", ".else", ".else", ".endif");
        h.faults(5, 2, ".if 1", ".else", ".elseif 1", ".endif");
        h.faults(5, 2, ".if 0", ".else", ".elseif (", ".endif");
        h.faults(5, 3, ".if 0", ".if 1", ".else", ".else", ".endif", ".endif");
        h.faults(5, 3, ".if 0", ".if 1", ".else", ".elseif 1", ".endif", ".endif");
        h.faults(5, 1, "x", ".if 1", "y");
        h.faults(5, 2, ".if 1", "x", ".if 0", "y", ".else");
        h.faults(5, 1, ".if 0", ".if 0");
        MacroHouse house = h.faults(5, 0, ".if 0", "x", ".else", "y");
        h.same("what went out ahead", House.out(house), "y");
    }

    /** A range closes what it opens, and nothing else. */
    private static void given(House h) {
        String[] wrong = {".else", ".elseif 1", ".endif"};
        for (String line : wrong) {
            h.faults(5, 4, ".macro m", line, ".endm", ".if 1", "m", ".endif");
            h.faults(5, 1, ".if 1", ".rept 1", line, ".endr", ".endif");
            h.faults(5, 1, ".if 1", ".each w,a", line, ".endr", ".endif");
        }
        h.faults(5, 4, ".macro m", ".if 1", ".endm", "x", "m", ".endif");
        h.faults(5, 1, "x", ".rept 1", ".if 1", ".endr", ".endif");
        h.faults(5, 1, "x", ".each w,a", ".if 0", ".endr", ".endif");
        h.faults(5, 0, ".each w,if 1,endif", ".\\w", ".endr");
        h.gives("0|2", ".rept 3", ".if \\?%2", ".else", "\\?", ".endif", ".endr");
        h.gives("x|y", ".macro m", ".if 1", "x", ".endif", ".endm", ".if 1", "m", ".else", "z",
                ".endif", "y");
    }

    private static void tooMany(House h) {
        h.gives("x", House.times(8, ".if 1\n") + "x" + House.times(8, "\n.endif"));
        h.faults(6, 8, House.times(8, ".if 1\n") + ".if 1" + House.times(9, "\n.endif"));
        h.faults(6, 8, House.times(8, ".if 0\n") + ".ifsame" + House.times(9, "\n.endif"));
        h.faults(1, 8, House.times(8, ".if 1\n") + ".if 1 1" + House.times(9, "\n.endif"));
        h.faults(3, 8, House.times(8, ".if 1\n") + ".if zz" + House.times(9, "\n.endif"));
        // Those around a call count too: the first call opens the eighth, the second a ninth.
        h.faults(6, 13, ".macro m", ".if 1", ".endif", ".endm",
                House.times(7, ".if 1\n") + "m", ".if 1", "m" + House.times(8, "\n.endif"));
    }
}
