/** Promise 8, and .macro, calls, their arguments and .leave. */
public final class MacroTest {
    private static final String IOOBE = "IndexOutOfBoundsException";
    private static final String IAE = "IllegalArgumentException";

    public static void main(String[] args) {
        House h = new House("MacroTest");
        told(h);
        heads(h);
        names(h);
        bodies(h);
        calls(h);
        arguments(h);
        defaults(h);
        leave(h);
        tooMany(h);
        h.done();
    }

    private static void told(House h) {
        MacroHouse house = h.gives("x|x", "", ".macro ab_1 p,q=", "x", "", ".endm", ".macro m",
                ".endm", "ab_1 1", "m", "ab_1 2");
        h.same("macros", House.macros(house), "ab_1:2,2,1,2 m:0,0,5,1");
        h.same("about 4", house.about(4), 2);
        h.same("about 3", house.about(3), 3);
        h.same("a sign", house.macro(0, 5), (int) 'b');
        h.same("behind the name", house.macro(0, 8), -1);
        h.same("far behind", house.macro(0, Integer.MAX_VALUE), -1);
        h.throwing("macro 2", IOOBE, () -> house.macro(2, 0));
        h.throwing("macro -1", IOOBE, () -> house.macro(-1, 0));
        h.throwing("the index is told first", IOOBE, () -> house.macro(2, -1));
        h.throwing("what -1", IAE, () -> house.macro(1, -1));
        h.throwing("the least what", IAE, () -> house.macro(1, Integer.MIN_VALUE));
        house.end(0);
        House.fill(house, "zzzzzzzzzzzzzzzzz");
        h.same("they outlive the text", House.macros(house), "ab_1:2,2,1,2 m:0,0,5,1");
        house.expand();
        h.same("all anew", house.about(4), 0);
    }

    private static void heads(House h) {
        String[] good = {"m", " m ", "m a", "m a,b", "m a , b", "m a,b,c,d,e,f", "m a=", "m a = x y",
            "m a=,b", "m a==,b=(", "m abcdefghijkl", "abcdefghijkl", "_ _", "macro set,if", "m m"};
        for (String head : good) {
            h.same(head, h.gives("", ".macro " + head, ".endm").about(4), 1);
        }
        String[] wrong = {"", "1", "M", "m,", "m,a", "m a,", "m ,a", "m a b", "m a,a", "m a,b,a=1",
            "m a,,b", "m 1", "m A", "m a,b,c,d,e,f,g", "m a,b,c,d,e,f,", "m =1", "m=1", "m(a)",
            "abcdefghijklm", "m abcdefghijklm", "m a=(1,2)", "m a\\b", "m\\"};
        for (String head : wrong) {
            h.same(head, h.faults(1, 1, "x", ".macro " + head, ".endm").about(4), 0);
        }
        h.faults(1, 0, ".macro m a,a");
        h.faults(1, 2, ".macro m", ".endm", ".macro m 1");
    }

    private static void names(House h) {
        MacroHouse house = h.faults(2, 3, ".macro m a", "x", ".endm", ".macro m");
        h.same("lines looked at", house.about(2), 4);
        h.same("the first one stays", House.macros(house), "m:1,1,0,0");
        h.gives("y", ".macro ab", "x", ".endm", ".macro abc", "y", ".endm", "abc");
        h.gives("m|x|m2|abcdefghijklm|9 m|M", "m", ".macro m", "x", ".endm", ".macro abcdefghijkl",
                "z", ".endm", "m", "m2", "abcdefghijklm", "9 m", "M");
    }

    private static void bodies(House h) {
        h.gives("", ".macro m", ".foo", ".if", ".rept", "\\", ".endr", ".endm");
        MacroHouse house = h.faults(5, 1, "x", ".macro m", "y", "");
        h.same("lines looked at", house.about(2), 4);
        h.same("no macro without its end", house.about(4), 0);
        h.faults(5, 0, ".macro m", ".endmx");
        h.faults(5, 2, ".macro m", "x", ".macro n", ".endm");
        h.faults(5, 1, ".macro m", ".macro 1");
        h.faults(5, 1, "x", ".endm");
        h.faults(5, 0, ".rept 1", ".macro m", ".endm", ".endr");
        h.faults(1, 0, ".rept 1", ".macro 1", ".endm", ".endr");
        h.faults(2, 2, ".macro m", ".endm", ".rept 1", ".macro m", ".endm", ".endr");
        h.faults(5, 3, ".macro m a", "\\a n", ".endm", "m .macro");
        h.faults(5, 3, ".macro m a", "\\a", ".endm", "m .endm");
        h.gives("a|b", ".macro m", "a", ".endm junk (", "m", "b");
        h.gives("", ".macro m", ".endm\\x");
        h.gives("a", ".if 1", ".macro m", ".endif", "a", ".endm", ".endif", ".macro n", ".if 1",
                ".endm", ".macro o a", "\\a", ".endm", "o a");
    }

    private static void calls(House h) {
        MacroHouse house = h.gives("a|b|c|b|d", ".macro in", "b", ".endm", ".macro m", "a", "in",
                "c", ".endm", "m", "in", "d");
        h.same("macros", House.macros(house), "in:0,1,0,2 m:0,3,3,1");
        h.same("line of the outermost call", house.line(1, 1), 8);
        h.same("open there", house.line(1, 2), 2);
        h.same("line of the second call", house.line(3, 1), 9);
        h.same("deepest", house.about(8), 2);
        h.same("lines looked at", house.about(2), 8 + 1 + 3 + 1 + 1 + 1 + 1);
        h.gives("x", ".macro m a", ".macro2", ".endm", ".if 0", "m", ".endif", "x");
        h.faults(1, 3, ".macro m", ".foo", ".endm", "m");
        h.gives("b", ".macro m", "n", ".endm", ".macro n", "b", ".endm", "m");
    }

    private static void argument(House h, String rest, String due) {
        h.gives(due, ".macro m a,b", "\\a;\\b", ".endm", "m" + rest);
    }

    private static void arguments(House h) {
        argument(h, " 1,2", "1;2");
        argument(h, "   x y  ,  z ", "x y;z");
        argument(h, " (1,2),3", "(1,2);3");
        argument(h, " f(1,(2,3)) (4),()", "f(1,(2,3)) (4);()");
        argument(h, "(1),2", "(1);2");
        argument(h, ":1,2", ":1;2");
        argument(h, "=1,.2", "=1;.2");
        argument(h, "A,\\a", "A;\\a");
        argument(h, " -m,m # c", "-m;m");
        argument(h, " " + House.times(60, "x") + ",2", House.times(60, "x") + ";2");
        String[] wrong = {"", " ", " 1", " 1,", " ,2", ",", " 1,2,3", " 1,2,", " (1,2", " 1),2",
            " 1,2)", " (1,2),(3", " )(,2", " (1),2,(", " (),,"};
        for (String rest : wrong) {
            h.faults(1, 3, ".macro m a,b", "\\a;\\b", ".endm", "m" + rest);
        }
        String[] some = {" x", ",", "()", " (", ":"};
        for (String rest : some) {
            h.faults(1, 2, ".macro m", ".endm", "m" + rest);
        }
        h.gives("", ".macro m", ".endm", "  m  ");
    }

    private static void defaults(House h) {
        String[] macro = {".macro m a,b= 1 2 ,c=,d=\\a # x", "\\a;\\b;\\c;\\d", ".endm"};
        String head = House.lines(macro);
        h.gives("x;1 2;;\\a", head, "m x");
        h.gives("x;1 2;;\\a", head, "m x,,,");
        h.gives("x;y;;z", head, "m x,y, ,z");
        h.gives("x;1 2;q;\\a", head, "m x,,q");
        h.faults(1, 3, head, "m");
        h.faults(1, 3, head, "m ,1");
        h.faults(1, 3, head, "m x,,,,");
        h.gives("(", ".macro m a=(", "\\a", ".endm", "m");
        h.gives("x" + House.times(200, "y"), ".macro m a=" + House.times(200, "y"), "x\\a", ".endm",
                "m");
        MacroHouse house = h.gives("x", ".macro m a=" + House.times(2900, "y"), "x", ".endm", "m");
        h.same("a long default", house.macro(0, 0), 1);
    }

    private static void leave(House h) {
        MacroHouse house = h.gives("a|z", ".macro m", "a", ".leave", "b", ".endm", "m", "z");
        h.same("what is left isn't looked at", house.about(2), 5 + 1 + 2 + 1);
        h.gives("a0|z", ".macro m", ".rept 3", ".if 1", ".each w,1,2", ".ifsame a,a", "a\\?",
                ".leave", ".endif", ".endr", ".endif", ".endr", "b", ".endm", "m", "z");
        h.gives("a|c|z", ".macro in", "a", ".leave", "b", ".endm", ".macro m", "in", "c", ".endm",
                "m", "z");
        h.gives("a|a|z", ".macro m", "a", ".leave", ".endm", ".rept 2", "m", ".endr", "z");
        h.gives("a|b", ".macro m", ".if 1", ".leave", ".endm", "a", ".if 1", "m", "b", ".endif");
        h.faults(5, 0, ".leave");
        h.faults(5, 1, "x", ".rept 1", ".leave", ".endr");
        h.faults(1, 0, ".leave x");
        h.faults(1, 3, ".macro m", ".leave x", ".endm", "m");
        h.gives("x", ".if 0", ".leave", ".endif", "x");
        h.gives("x", ".macro m", ".if 0", ".leave", ".endif", "x", ".endm", "m");
    }

    private static String macros(int n) {
        StringBuilder text = new StringBuilder();
        for (int k = 0; k < n; k++) {
            text.append(".macro m").append(k).append(" a\n.endm\n");
        }
        return text.toString();
    }

    private static void tooMany(House h) {
        h.same("16", h.gives("", macros(16) + "m15 x").macro(15, 3), 1);
        MacroHouse house = h.faults(6, 32, macros(16) + ".macro l a,b\nx\n.endm\ny");
        h.same("no more than 16", house.about(4), 16);
        h.same("up to its end", house.about(2), 35);
        h.faults(2, 32, macros(16) + ".macro m3\n.endm");
        h.faults(1, 32, macros(16) + ".macro l 1\n.endm");
        h.faults(5, 32, macros(16) + ".macro l");
    }
}
