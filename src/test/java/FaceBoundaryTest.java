/** The edges that promises 1 to 8 name, sentence by sentence. */
public final class FaceBoundaryTest {
    private static final String NOTHING = "";
    private static final String IAE = "IllegalArgumentException";
    private static final String IOOBE = "IndexOutOfBoundsException";
    private static final String UOE = "UnsupportedOperationException";
    private static final int LEAST = Integer.MIN_VALUE;
    private static final int GREATEST = Integer.MAX_VALUE;

    public static void main(String[] args) {
        House h = new House("FaceBoundaryTest");
        newObject(h);
        newObjectTold(h);
        putBytes(h);
        putZero(h);
        putFull(h);
        putBoth(h);
        endRange(h);
        expandCounts(h);
        expandAnew(h);
        aboutWhat(h);
        lineIndex(h);
        lineWhat(h);
        lineSigns(h);
        constantIndex(h);
        constantWhat(h);
        constantSigns(h);
        constantAgain(h);
        macroIndex(h);
        macroWhat(h);
        macroSigns(h);
        changesNothing(h);
        h.done();
    }

    private static void newObject(House h) {
        h.says("An empty text; nothing went out, no fault");
        MacroHouse house = new MacroHouse();
        h.same("signs", house.put(0), 0);
        h.throwing("end 0", NOTHING, () -> house.end(0));
        h.throwing("end 1", IAE, () -> house.end(1));
        h.throwing("line 0", IOOBE, () -> house.line(0, 0));
        h.throwing("line 0 with a wrong what", IOOBE, () -> house.line(0, -1));
        h.throwing("constant 0", IOOBE, () -> house.constant(0, 0));
        h.throwing("constant 0 with a wrong what", IOOBE, () -> house.constant(0, -1));
        h.throwing("macro 0", IOOBE, () -> house.macro(0, 0));
        h.throwing("macro 0 with a wrong what", IOOBE, () -> house.macro(0, -1));
        h.same("an empty text gives", new MacroHouse().expand(), 0);
    }

    private static void newObjectTold(House h) {
        h.says("All 0, 1 NONE, if there was none");
        MacroHouse house = House.with("x\n.foo");
        h.same("all", House.all(house), "0 -1 0 0 0 0 0 0 0   ");
        house.end(1);
        h.same("all behind an end", House.all(house), "0 -1 0 0 0 0 0 0 0   ");
        house.expand();
        h.same("lines looked at by the first", house.about(2), 1);
    }

    private static void putBytes(House h) {
        h.says("IllegalArgumentException if a byte is none of those");
        MacroHouse house = new MacroHouse();
        for (int shift = 0; shift < 32; shift += 8) {
            for (int sign = 1; sign < 256; sign++) {
                boolean stands = sign == 10 || sign >= 32 && sign <= 126;
                int signs = sign << shift;
                h.throwing(sign + " as byte " + shift / 8, stands ? NOTHING : IAE,
                        () -> house.put(signs));
                house.end(0);
            }
        }
        h.same("the last that are signs", house.put(10 | 32 << 8 | 126 << 16), 3);
        int[] wrong = {9, 11, 31, 127, 128, 255};
        for (int sign : wrong) {
            int signs = 'x' | 'y' << 8 | sign << 16 | 'z' << 24;
            h.throwing("one of four is " + sign, IAE, () -> house.put(signs));
        }
        h.same("none of those four was put", house.put(0), 3);
    }

    private static void putZero(House h) {
        h.says("Four more signs, the lowest byte first (0 is left out): how many there are");
        MacroHouse house = new MacroHouse();
        int[] fours = {0, 'a', 'b' << 8, 'c' << 16, 'd' << 24, 'e' | 'f' << 24,
            'g' << 8 | 'h' << 16, 'i' | 'j' << 8 | 'k' << 16 | 'l' << 24};
        int[] due = {0, 1, 2, 3, 4, 6, 8, 12};
        for (int k = 0; k < fours.length; k++) {
            h.same("put " + k, house.put(fours[k]), due[k]);
        }
        house.expand();
        h.same("in order", House.out(house), "abcdefghijkl");
    }

    private static void putFull(House h) {
        h.says("UnsupportedOperationException if there would be more than 3000");
        int four = 'a' | 'b' << 8 | 'c' << 16 | 'd' << 24;
        MacroHouse house = House.with(House.times(2996, "x"));
        h.same("3000 by four", house.put(four), 3000);
        h.throwing("3001 by one", UOE, () -> house.put('y'));
        h.throwing("3001 by the highest byte", UOE, () -> house.put('y' << 24));
        h.throwing("3004 by four", UOE, () -> house.put(four));
        h.same("3000 by none", house.put(0), 3000);
        house.end(2997);
        h.throwing("3001 by four", UOE, () -> house.put(four));
        h.same("none of the four was put", house.put(0), 2997);
        h.same("3000 by three", house.put(four & 0xffffff), 3000);
        house.end(2999);
        h.throwing("3001 by two", UOE, () -> house.put('y' << 8 | 'z' << 24));
        h.same("3000 by one", house.put('z' << 16), 3000);
        house.expand();
        h.same("the signs", House.out(house), House.times(2996, "x") + "aabz");
    }

    private static void putBoth(House h) {
        h.says("of several exceptions the one that it names first is thrown");
        MacroHouse house = House.with(House.times(3000, "x"));
        h.throwing("a byte that is no sign", IAE, () -> house.put(127 << 24 | 'x'));
        h.throwing("no sign alone", IAE, () -> house.put(31));
        h.throwing("no byte that is none", UOE, () -> house.put('x' << 24));
        house.end(0);
        house.expand();
        h.throwing("line", IOOBE, () -> house.line(0, -1));
        h.throwing("constant", IOOBE, () -> house.constant(0, -1));
        h.throwing("macro", IOOBE, () -> house.macro(0, -1));
    }

    private static void endRange(House h) {
        h.says("IllegalArgumentException if n is below 0 or above how many there are");
        MacroHouse house = House.with("abcde");
        int[] wrong = {-1, 6, LEAST, GREATEST};
        for (int n : wrong) {
            h.throwing("end " + n, IAE, () -> house.end(n));
        }
        h.same("all five stay", house.put(0), 5);
        h.throwing("end 5", NOTHING, () -> house.end(5));
        h.same("all five", house.put(0), 5);
        h.throwing("end 1", NOTHING, () -> house.end(1));
        h.throwing("above what is left", IAE, () -> house.end(2));
        house.expand();
        h.same("the first one", House.out(house), "a");
        h.throwing("end 0", NOTHING, () -> house.end(0));
        h.throwing("above nothing", IAE, () -> house.end(1));
        h.same("nothing is left", house.put(0), 0);
    }

    private static void expandCounts(House h) {
        h.says("how many lines went out; NONE if it has a fault");
        h.same("nothing", House.with("").expand(), 0);
        h.same("a blank line", House.with("  \n# x").expand(), 0);
        h.same("one", House.with("x").expand(), 1);
        h.same("a fault at once", House.with(".").expand(), MacroHouse.NONE);
        MacroHouse house = House.with("x\n.set a,1\n.macro m\n.endm\n.stop\ny\n.set b,2");
        h.same("a fault behind a line", house.expand(), MacroHouse.NONE);
        h.says("what went out ahead of it stays told, and macros and constants as they were then");
        h.same("ahead of the fault", House.out(house), "x");
        h.same("constants", House.constants(house), "a=1");
        h.same("macros", House.macros(house), "m:0,0,2,0");
    }

    private static void expandAnew(House h) {
        h.says("Goes over the text (which stays), all anew");
        String text = ".set a,1\n.macro m\n\\@\n.endm\nm\n.rept 2\nm\n.endr\n.if ?b\n.stop\n.endif";
        MacroHouse house = House.with(text + "\n.set b,1");
        house.expand();
        String first = House.all(house);
        house.expand();
        h.same("the second", House.all(house), first);
        h.same("the text's signs", house.put(0), text.length() + 9);
        h.same("what the first told", House.out(house), "0|1|2");
    }

    private static void aboutWhat(House h) {
        h.says("IllegalArgumentException for another what");
        MacroHouse[] houses = {new MacroHouse(), House.with("x"), House.with(".foo")};
        houses[1].expand();
        houses[2].expand();
        for (MacroHouse house : houses) {
            int[] wrong = {-1, 9, 10, LEAST, GREATEST};
            for (int what : wrong) {
                h.throwing("about " + what, IAE, () -> house.about(what));
            }
            h.throwing("about 0", NOTHING, () -> house.about(0));
            h.throwing("about 8", NOTHING, () -> house.about(8));
        }
    }

    private static void lineIndex(House h) {
        h.says("line: IndexOutOfBoundsException if there is no such line");
        MacroHouse house = h.gives("a|b", "a", "b");
        h.same("the first", house.line(0, 3), (int) 'a');
        h.same("the last", house.line(1, 3), (int) 'b');
        int[] wrong = {-1, 2, LEAST, GREATEST};
        for (int i : wrong) {
            h.throwing("line " + i, IOOBE, () -> house.line(i, 0));
            h.throwing("line " + i + " and a wrong what", IOOBE, () -> house.line(i, -1));
        }
        MacroHouse none = h.gives("", "", ".set a,1", ".macro m", ".endm");
        h.throwing("line 0 of none", IOOBE, () -> none.line(0, 0));
        MacroHouse fault = h.faults(7, 1, "a", ".stop", "b");
        h.same("the last ahead of the fault", fault.line(0, 3), (int) 'a');
        h.throwing("behind the fault", IOOBE, () -> fault.line(1, 0));
    }

    private static void lineWhat(House h) {
        h.says("line: IllegalArgumentException if what is below 0");
        MacroHouse house = h.gives("abc", "", ".rept 1", "abc", ".endr");
        h.same("what 0", house.line(0, 0), 3);
        h.same("what 1", house.line(0, 1), 1);
        h.same("what 2", house.line(0, 2), 1);
        h.throwing("what -1", IAE, () -> house.line(0, -1));
        h.throwing("the least what", IAE, () -> house.line(0, LEAST));
    }

    private static void lineSigns(House h) {
        h.says("line: 3 + k sign k (NONE behind it)");
        MacroHouse house = h.gives("abc|d", "abc", "d");
        h.same("the first sign", house.line(0, 3), (int) 'a');
        h.same("the last sign", house.line(0, 5), (int) 'c');
        h.same("behind it", house.line(0, 6), MacroHouse.NONE);
        h.same("behind the last line's", house.line(1, 4), MacroHouse.NONE);
        h.same("far behind", house.line(0, 3000), MacroHouse.NONE);
        h.same("the greatest what", house.line(1, GREATEST), MacroHouse.NONE);
    }

    private static void constantIndex(House h) {
        h.says("constant: IndexOutOfBoundsException as for line()");
        MacroHouse house = h.gives("", ".set a,4", ".set b,5");
        h.same("the first", house.constant(0, 0), 4);
        h.same("the last", house.constant(1, 0), 5);
        int[] wrong = {-1, 2, LEAST, GREATEST};
        for (int i : wrong) {
            h.throwing("constant " + i, IOOBE, () -> house.constant(i, 0));
            h.throwing("constant " + i + " and a wrong what", IOOBE, () -> house.constant(i, -1));
        }
        MacroHouse none = h.gives("", ".set a,1", ".forget a");
        h.throwing("one that was forgotten is none", IOOBE, () -> none.constant(0, 0));
    }

    private static void constantWhat(House h) {
        h.says("constant: IllegalArgumentException as for line()");
        MacroHouse house = h.gives("", ".set a,-1");
        h.same("what 0", house.constant(0, 0), -1);
        h.throwing("what -1", IAE, () -> house.constant(0, -1));
        h.throwing("the least what", IAE, () -> house.constant(0, LEAST));
    }

    private static void constantSigns(House h) {
        h.says("constant: 1 + k sign k of its name (NONE behind it)");
        MacroHouse house = h.gives("", ".set a,1", ".set bcdefghijklm,2", ".set n,3");
        h.same("the only sign", house.constant(0, 1), (int) 'a');
        h.same("behind it", house.constant(0, 2), MacroHouse.NONE);
        h.same("the first of twelve", house.constant(1, 1), (int) 'b');
        h.same("the last of twelve", house.constant(1, 12), (int) 'm');
        h.same("behind twelve", house.constant(1, 13), MacroHouse.NONE);
        h.same("behind the last one's", house.constant(2, 2), MacroHouse.NONE);
        h.same("the greatest what", house.constant(2, GREATEST), MacroHouse.NONE);
    }

    private static void constantAgain(House h) {
        h.says("one that was forgotten is none, and comes last if it is told again");
        String three = ".set a,1\n.set b,2\n.set c,3\n";
        String[] forgotten = {"a", "b", "c"};
        String[] left = {"b=2 c=3", "a=1 c=3", "a=1 b=2"};
        for (int k = 0; k < 3; k++) {
            String name = forgotten[k];
            h.same(name + " forgotten", House.constants(h.gives("", three + ".forget " + name)),
                    left[k]);
            h.same(name + " told again", House.constants(h.gives("",
                    three + ".forget " + name + "\n.set " + name + ",9")), left[k] + " " + name
                    + "=9");
        }
        h.same("one that wasn't forgotten stays", House.constants(h.gives("", three + ".set a,9")),
                "a=9 b=2 c=3");
    }

    private static void macroIndex(House h) {
        h.says("macro: IndexOutOfBoundsException as for line()");
        MacroHouse house = h.gives("", ".macro a", ".endm", ".macro b", ".endm");
        h.same("the first", house.macro(0, 2), 0);
        h.same("the last", house.macro(1, 2), 2);
        int[] wrong = {-1, 2, LEAST, GREATEST};
        for (int i : wrong) {
            h.throwing("macro " + i, IOOBE, () -> house.macro(i, 0));
            h.throwing("macro " + i + " and a wrong what", IOOBE, () -> house.macro(i, -1));
        }
        MacroHouse none = h.faults(5, 0, ".macro a");
        h.throwing("one without its end is none", IOOBE, () -> none.macro(0, 0));
    }

    private static void macroWhat(House h) {
        h.says("macro: IllegalArgumentException as for line()");
        MacroHouse house = h.gives("", "", ".macro m a,b", "", "", "", ".endm", "m 1,2");
        int[] due = {2, 3, 1, 1, 'm'};
        for (int what = 0; what < due.length; what++) {
            h.same("what " + what, house.macro(0, what), due[what]);
        }
        h.throwing("what -1", IAE, () -> house.macro(0, -1));
        h.throwing("the least what", IAE, () -> house.macro(0, LEAST));
    }

    private static void macroSigns(House h) {
        h.says("macro: 4 + k sign k of its name (NONE behind it)");
        MacroHouse house = h.gives("", ".macro a", ".endm", ".macro bcdefghijklm", ".endm",
                ".macro n", ".endm");
        h.same("the only sign", house.macro(0, 4), (int) 'a');
        h.same("behind it", house.macro(0, 5), MacroHouse.NONE);
        h.same("the first of twelve", house.macro(1, 4), (int) 'b');
        h.same("the last of twelve", house.macro(1, 15), (int) 'm');
        h.same("behind twelve", house.macro(1, 16), MacroHouse.NONE);
        h.same("behind the last one's", house.macro(2, 5), MacroHouse.NONE);
        h.same("the greatest what", house.macro(2, GREATEST), MacroHouse.NONE);
    }

    private static void changesNothing(House h) {
        h.says("A call that throws changes nothing");
        String text = ".set a,1\n.macro m p\n<\\p>\n.endm\nm 1\n.rept 2\nm \\?\n.endr";
        MacroHouse house = House.with(text);
        house.expand();
        String told = House.all(house);
        Runnable[] calls = {() -> house.put(127), () -> house.put('x' | 31 << 24),
            () -> house.end(-1), () -> house.end(text.length() + 1), () -> house.about(-1),
            () -> house.about(9), () -> house.line(-1, 0), () -> house.line(3, 0),
            () -> house.line(0, -1), () -> house.constant(-1, 0), () -> house.constant(1, 0),
            () -> house.constant(0, -1), () -> house.macro(-1, 0), () -> house.macro(1, 0),
            () -> house.macro(0, -1)};
        String[] due = {IAE, IAE, IAE, IAE, IAE, IAE, IOOBE, IOOBE, IAE, IOOBE, IOOBE, IAE, IOOBE,
            IOOBE, IAE};
        for (int k = 0; k < calls.length; k++) {
            h.throwing("call " + k, due[k], calls[k]);
            h.same("signs behind call " + k, house.put(0), text.length());
            h.same("what is told behind call " + k, House.all(house), told);
        }
        house.expand();
        h.same("what the text gives", House.all(house), told);
    }
}
