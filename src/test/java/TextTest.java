/** Promise 4, terms 1: lines, comments, blanks, words and values. */
public final class TextTest {
    public static void main(String[] args) {
        House h = new House("TextTest");
        lines(h);
        directives(h);
        values(h);
        wrongValues(h);
        nesting(h);
        firstOfSeveral(h);
        h.done();
    }

    private static void lines(House h) {
        MacroHouse house = h.gives("a b|c|Z 9 \\x \\@", "  a b  ", "", "   ", "# all", "c # d # e",
                "Z 9 \\x \\@");
        h.same("lines looked at", house.about(2), 6);
        h.same("from which line", house.line(1, 1), 4);
        h.gives("", "\n\n");
        h.gives("x", "x#");
        h.gives(House.times(301, "x"), House.times(301, "x"));
    }

    private static void directives(House h) {
        String[] strange = {".", "..", ". set k,1", ".Set k,1", ".5", ".setx k,1", ".foo", ".set_",
            ".endif1", "  .x", ".#set", ".abcdefghijklm", ".\\x", ".bet k,1",
            ".sex k,1", ".se k,1"};
        for (String line : strange) {
            h.faults(1, 1, "ok", line);
        }
        h.faults(7, 1, "ok", ".stop");
        h.faults(7, 1, "ok", ".stop , ( because");
        h.gives("x.set k,1", "x.set k,1");
    }

    private static void value(House h, String value, int due) {
        MacroHouse house = h.gives("", ".set a,7", ".set b,-3", ".set k," + value);
        h.same(value, house.constant(2, 0), due);
    }

    private static void values(House h) {
        value(h, "0", 0);
        value(h, " 999999999 ", 999999999);
        value(h, "000000012", 12);
        value(h, "1+2*3", 7);
        value(h, "10-3-2", 5);
        value(h, "2*7/3%3", 1);
        value(h, "a", 7);
        value(h, "a/b", -2);
        value(h, "a%b", 1);
        value(h, "b%2", -1);
        value(h, "-a", -7);
        value(h, "- - a", 7);
        value(h, "3 - -a", 10);
        value(h, "-a*2", -14);
        value(h, "(1+2)*3", 9);
        value(h, "((a))", 7);
        value(h, "?a", 1);
        value(h, "? zz + ?b", 1);
        value(h, "-?a", -1);
        value(h, "?abcdefghijkl", 0);
        value(h, "a==7", 1);
        value(h, "a == 6", 0);
        value(h, "a!=7", 0);
        value(h, "a!=6", 1);
        value(h, "6<a", 1);
        value(h, "7<a", 0);
        value(h, "7<=a", 1);
        value(h, "8<=a", 0);
        value(h, "b<-2", 1);
        value(h, "1+1==2*1", 1);
        value(h, "(1==1)+(1<0)", 1);
        value(h, "(1<2)==(3<4)", 1);
        value(h, "999999999*999999999", 999999999 * 999999999);
        value(h, "-(999999999*2+147483650)", Integer.MIN_VALUE);
        value(h, "(999999999*2+147483650)/-1", Integer.MIN_VALUE);
        value(h, "(999999999*2+147483650)%-1", 0);
        value(h, "999999999*2+147483649+1", Integer.MIN_VALUE);
        value(h, "0-999999999*2-147483650-1", Integer.MAX_VALUE);
    }

    private static void wrongValues(House h) {
        String[] wrong = {"", "1 2", "1+", "+1", "*", "(1", "1)", "()", "1==2==3", "1<2<=3", "1=1",
            "1= =1", "1!1", "1<", "1>0", "1>=0", "1< =2", "!1", "12a", "1_", "a 1", "1234567890",
            "0000000001", "abcdefghijklm", "?", "?1", "?abcdefghijklm", "A", "1A", "\\a", "1,2",
            "a=1", "(1,2)", ".", "1//2"};
        for (String value : wrong) {
            h.faults(1, 1, ".set a,1", ".set k," + value);
            h.faults(1, 1, ".set a,1", ".if " + value, ".endif");
            h.faults(1, 1, ".set a,1", ".rept " + value, ".endr");
        }
        h.faults(3, 1, ".set a,1", ".set k,a+zz");
        h.faults(4, 1, ".set a,1", ".set k,1/(a-1)");
        h.faults(4, 0, ".set k,1%0");
    }

    private static void nesting(House h) {
        value(h, House.times(10, "(") + "5" + House.times(10, ")"), 5);
        value(h, House.times(10, "-") + "5", 5);
        value(h, House.times(5, "-(") + "5" + House.times(5, ")"), -5);
        value(h, "-1" + House.times(20, "+-1") + "+(1)+(1)", -19);
        value(h, House.times(9, "(") + "-1-(2)" + House.times(9, ")"), -3);
        h.faults(1, 0, ".set k," + House.times(11, "(") + "5" + House.times(11, ")"));
        h.faults(1, 0, ".set k," + House.times(11, "-") + "5");
        h.faults(1, 0, ".set k," + House.times(10, "-") + "(5)");
        h.faults(1, 0, ".set k," + House.times(10, "(") + "-5" + House.times(10, ")"));
        h.faults(1, 0, ".set k,zz+" + House.times(1000, "("));
    }

    private static void firstOfSeveral(House h) {
        h.faults(3, 0, ".set k,zz/0");
        h.faults(4, 0, ".set k,1/0+zz");
        h.faults(4, 0, ".set k,1/0*zz");
        h.faults(3, 0, ".set k,1/zz");
        h.faults(3, 0, ".set k,zz==1/0");
        h.faults(4, 0, ".set k,1%0==zz");
        h.faults(3, 0, ".set k,(zz)-(1/0)");
        h.faults(1, 0, ".set k,1/0+zz+");
        h.faults(1, 0, ".set k,zz 1");
        h.faults(4, 0, ".rept 101+1/0", ".endr");
        h.faults(3, 0, ".rept zz", ".endr");
    }
}
