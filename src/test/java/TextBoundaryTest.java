/** The edges that the document's first term names (lines, words, numbers, values), one by one. */
public final class TextBoundaryTest {
    private static final String TWELVE = "abcdefghij_9";
    private static final String THIRTEEN = "abcdefghij_9x";

    public static void main(String[] args) {
        House h = new House("TextBoundaryTest");
        signs(h);
        lines(h);
        comments(h);
        blanks(h);
        firstSigns(h);
        longWords(h);
        numbers(h);
        behindNumbers(h);
        directives(h);
        comparisons(h);
        oneComparison(h);
        leftToRight(h);
        factors(h);
        valueBlanks(h);
        wraps(h);
        byZero(h);
        nested(h);
        nestedElsewhere(h);
        nestedMinus(h);
        h.done();
    }

    /** What the value is as a constant. */
    private static void value(House h, String value, int due) {
        MacroHouse house = h.gives("", ".set a,7", ".set k," + value);
        h.same(value, house.constant(1, 0), due);
    }

    /** The fault of a line with the value, wherever one may stand. */
    private static void faulty(House h, int kind, String value) {
        h.faults(kind, 1, ".set a,7", ".set k," + value);
        h.faults(kind, 1, ".set a,7", ".if " + value, ".endif");
        h.faults(kind, 2, ".set a,7", ".if 0", ".elseif " + value, ".endif");
        h.faults(kind, 1, ".set a,7", ".rept " + value, ".endr");
    }

    private static void signs(House h) {
        h.says("THE TEXT has signs: 32 .. 126 and line ends (10)");
        StringBuilder all = new StringBuilder("A");
        for (char sign = 32; sign <= 126; sign++) {
            all.append(sign == '#' ? "" : sign);
        }
        h.gives(all + "|~", all.toString(), "~");
    }

    private static void lines(House h) {
        h.says("it is LINES, one more than it has line ends, from 0 on");
        for (int ends = 0; ends < 4; ends++) {
            MacroHouse house = h.gives("", House.times(ends, "\n"));
            h.same("lines of " + ends + " line ends", house.about(2), ends + 1);
            h.faults(7, ends, House.times(ends, "\n") + ".stop");
        }
        MacroHouse house = h.gives("a|b", "a", "b", "");
        h.same("with a line end at the end", house.about(2), 3);
        h.same("3000 line ends", h.gives("", House.times(3000, "\n")).about(2), 3001);
        h.same("the first line", house.line(0, 1), 0);
        h.same("the second line", house.line(1, 1), 1);
    }

    private static void comments(House h) {
        h.says("What is behind a # up to its line's end doesn't count, in none of what follows");
        h.gives("x|z|w", "x#y", "#y", "z # y # y", "w#");
        h.gives("x", "x", "#.stop", " # .endif");
        h.faults(1, 1, "x", ".#stop");
        h.gives("1", ".macro m a,b=2#,c", "\\a#\\c", ".endm#", "m 1#,2,3");
        h.gives("y", ".if 0#1", "x", ".else#", "y", ".endif#.");
        h.gives("x", ".ifsame a,a#b", "x", ".endif");
        h.faults(1, 0, ".set k#,1");
        h.faults(1, 0, ".set k,#1");
    }

    private static void blanks(House h) {
        h.says("A line is looked at without blanks at its ends; a blank one is nothing");
        MacroHouse house = h.gives("a  b|c", "   a  b   ", " ", "", "c # d", "  .set k,1  ", "  # ");
        h.same("signs", house.about(7), 5);
        h.same("blank ones are looked at", house.about(2), 6);
        h.same("a blank text", h.gives("", "   ").about(2), 1);
        h.gives("x", "  .if 1  ", "  x  ", "  .endif  ");
    }

    private static void firstSigns(House h) {
        h.says("WORDS: a small letter or _ and then small letters, digits and _");
        String[] words = {"a", "z", "_", "az", "a0", "a9", "a_", "_0", "__"};
        for (String word : words) {
            h.same(word, House.constants(h.gives("", ".set " + word + ",1")), word + "=1");
        }
        String[] none = {"0", "9", "A", "Z", "`", "{", "a`", "a{", "a/", "a:", "aA", "aZ", "a@",
            "a-", "\\a", "0a"};
        for (String word : none) {
            h.faults(1, 0, ".set " + word + ",1");
        }
    }

    private static void longWords(House h) {
        h.says("(as many as there are, 12 signs at most)");
        h.gives("", ".set " + TWELVE + ",1", ".if " + TWELVE, ".endif", ".if ?" + TWELVE, ".endif",
                ".forget " + TWELVE);
        h.faults(1, 0, ".set " + THIRTEEN + ",1");
        h.faults(1, 0, ".forget " + THIRTEEN);
        h.faults(1, 1, ".set " + TWELVE + ",1", ".set k," + THIRTEEN);
        h.faults(1, 1, ".set " + TWELVE + ",1", ".set k,?" + THIRTEEN);
        h.gives("1", ".macro " + TWELVE + " " + TWELVE, "\\" + TWELVE, ".endm", TWELVE + " 1");
        h.faults(1, 0, ".macro " + THIRTEEN, ".endm");
        h.faults(1, 0, ".macro m " + THIRTEEN, ".endm");
        h.gives("1", ".each " + TWELVE + ",1", "\\" + TWELVE, ".endr");
        h.faults(1, 0, ".each " + THIRTEEN + ",1", ".endr");
        h.faults(1, 0, ".each " + TWELVE + ",1", "\\" + THIRTEEN, ".endr");
    }

    private static void numbers(House h) {
        h.says("NUMBERS: digits (as many as there are, nine at most)");
        value(h, "0", 0);
        value(h, "999999999", 999999999);
        value(h, "000000000", 0);
        value(h, "000000010", 10);
        value(h, "123456789", 123456789);
        faulty(h, 1, "1000000000");
        faulty(h, 1, "0000000000");
        faulty(h, 1, "0000000001");
        faulty(h, 1, "99999999999999999999");
    }

    private static void behindNumbers(House h) {
        h.says("no sign of a word behind");
        value(h, "1 ", 1);
        value(h, "(1)", 1);
        value(h, "1+a", 8);
        String[] wrong = {"1a", "1z", "1_", "999999999a", "0x1", "1 a", "1 1"};
        for (String number : wrong) {
            faulty(h, 1, number);
        }
    }

    private static void directives(House h) {
        h.says("Lines whose first sign is a point and that are none of those told here are fault 1");
        String[] wrong = {".", "..", ". ", ". set k,1", "..set k,1", ".1", ".A", ".Set k,1", ".se k,1",
            ".sets k,1", ".set1 k,1", ".set_ k,1", ".ends", ".endi", ".endif_", ".els", ".elseifs 1",
            ".ifsam a,a", ".ifs 1", ".macros m", ".rep 1", ".leaves", ".stops", ".stopp", ".equ",
            ".abcdefghijklmnopqrstuvwxyz"};
        for (String line : wrong) {
            h.faults(1, 1, "x", line);
        }
        h.gives("x .set k,1|:.", "x .set k,1", ":.");
    }

    private static void comparisons(House h) {
        h.says("two with == != < or <= between (1 if it is so, else 0)");
        String[] signs = {"==", "!=", "<", "<="};
        int[][] due = {{0, 1, 0}, {1, 0, 1}, {1, 0, 0}, {1, 1, 0}};
        for (int k = 0; k < signs.length; k++) {
            for (int left = 6; left <= 8; left++) {
                value(h, left + signs[k] + "a", due[k][left - 6]);
                value(h, left + " " + signs[k] + " a", due[k][left - 6]);
            }
        }
        value(h, "-999999999*2-147483650<999999999", 1);
        value(h, "999999999<-999999999*2-147483650", 0);
        value(h, "-1<0", 1);
        value(h, "0<=-1", 0);
    }

    private static void oneComparison(House h) {
        h.says("A VALUE: a SUM, or two");
        String[] wrong = {"", "1==", "==1", "1==1==1", "1<2<3", "1<=2!=3", "1=1", "1= =1", "1! =1",
            "1< =1", "1>1", "1>=1", "1=>1", "1=<1", "!1", "1!1", "<", "1<==1"};
        for (String value : wrong) {
            faulty(h, 1, value);
        }
        value(h, "(1==1)==1", 1);
        value(h, "(1<2)<(2<3)", 0);
        value(h, "1+1<2*2", 1);
    }

    private static void leftToRight(House h) {
        h.says("PRODUCTS with + or - between, from left to right; FACTORS with * / or %, likewise");
        value(h, "9-3-2", 4);
        value(h, "9-3+2", 8);
        value(h, "9-(3+2)", 4);
        value(h, "100/10/5", 2);
        value(h, "100/10*5", 50);
        value(h, "100%60%7", 5);
        value(h, "7*8%5", 1);
        value(h, "7%5*8", 16);
        value(h, "1+2*3-4/2", 5);
        String[] wrong = {"1+", "+1", "1++1", "*1", "1*", "1**1", "1/", "/1", "%", "1%%1", "1-", "1+*1",
            "1*+1"};
        for (String value : wrong) {
            faulty(h, 1, value);
        }
    }

    private static void factors(House h) {
        h.says("a WORD that is a CONSTANT (any other is fault 3)");
        value(h, "a", 7);
        faulty(h, 3, "b");
        faulty(h, 3, "aa");
        faulty(h, 3, "k");
        h.faults(3, 2, ".set a,7", ".forget a", ".set k,a");
        h.says("? WORD (1 if it is a constant, else 0)");
        value(h, "?a", 1);
        value(h, "?k", 0);
        value(h, "?aa", 0);
        value(h, "1-?a", 0);
        faulty(h, 1, "?");
        faulty(h, 1, "?1");
        faulty(h, 1, "?(a)");
        faulty(h, 1, "??a");
        faulty(h, 1, "?-a");
        h.says("( VALUE )");
        value(h, "(a==7)", 1);
        faulty(h, 1, "()");
        faulty(h, 1, "(1");
        faulty(h, 1, "1)");
        faulty(h, 1, ")1(");
        faulty(h, 1, "(1)(2)");
    }

    private static void valueBlanks(House h) {
        h.says("Blanks may be between all these");
        value(h, "  ( 1  +  2 )  *  - a  ", -21);
        value(h, "? a  +  ?  k", 1);
        value(h, "a  <=  a", 1);
        faulty(h, 1, "1 2");
        faulty(h, 1, "a a");
    }

    private static void wraps(House h) {
        h.says("Ints that wrap, / and % as in Java");
        String greatest = "(999999999*2+147483649)";
        String least = "(-999999999*2-147483650)";
        value(h, greatest, Integer.MAX_VALUE);
        value(h, least, Integer.MIN_VALUE);
        value(h, greatest + "+1", Integer.MIN_VALUE);
        value(h, least + "-1", Integer.MAX_VALUE);
        value(h, "-" + least, Integer.MIN_VALUE);
        value(h, least + "*-1", Integer.MIN_VALUE);
        value(h, least + "/-1", Integer.MIN_VALUE);
        value(h, least + "%-1", 0);
        value(h, greatest + "*2", -2);
        value(h, "65536*65536", 0);
        value(h, "-7/2", -3);
        value(h, "7/-2", -3);
        value(h, "-7%2", -1);
        value(h, "7%-2", 1);
    }

    private static void byZero(House h) {
        h.says("by 0 fault 4");
        value(h, "0/1", 0);
        value(h, "0%-1", 0);
        faulty(h, 4, "1/0");
        faulty(h, 4, "1%0");
        faulty(h, 4, "0/0");
        faulty(h, 4, "0%0");
        faulty(h, 4, "a/(a-7)");
        faulty(h, 4, "1/?b");
        faulty(h, 4, "1/-0");
        faulty(h, 4, "0*(1/0)");
    }

    private static void nested(House h) {
        h.says("At most 10 of ( and - (of factors) are open in one another (the eleventh is fault 1)");
        value(h, House.times(10, "(") + "a" + House.times(10, ")"), 7);
        faulty(h, 1, House.times(11, "(") + "a" + House.times(11, ")"));
        value(h, House.times(10, "-") + "a", 7);
        faulty(h, 1, House.times(11, "-") + "a");
        value(h, House.times(9, "-") + "(a)", -7);
        faulty(h, 1, House.times(10, "-") + "(a)");
        value(h, House.times(9, "(") + "-a" + House.times(9, ")"), -7);
        faulty(h, 1, House.times(10, "(") + "-a" + House.times(10, ")"));
        faulty(h, 1, "zz+1/0+" + House.times(11, "("));
        value(h, House.times(10, "(") + "a" + House.times(10, ")") + "+" + House.times(10, "(") + "a"
                + House.times(10, ")"), 14);
        value(h, House.times(10, "(") + "9-a-1" + House.times(10, ")"), 1);
        value(h, House.times(10, "(") + "?a" + House.times(10, ")"), 1);
    }

    private static void nestedElsewhere(House h) {
        h.says("At most 10 of ( and - are open in one another, in .if, .elseif and .rept too");
        String[] values = {House.times(10, "(") + "1" + House.times(10, ")"), House.times(10, "-") + "1",
            House.times(5, "-(") + "1" + House.times(5, ")") + "+2"};
        for (String value : values) {
            h.gives("x", ".if " + value, "x", ".endif");
            h.gives("x", ".if 0", ".elseif " + value, "x", ".endif");
            h.gives("x", ".rept " + value, "x", ".endr");
        }
    }

    private static void nestedMinus(House h) {
        h.says("a - up to its factor's end");
        value(h, House.times(10, "-") + "a*" + House.times(10, "-") + "a", 49);
        value(h, House.times(10, "-") + "a-" + House.times(10, "-") + "a", 0);
        value(h, House.times(12, "-a+") + "a", -77);
        value(h, "-(" + House.times(8, "-") + "a+a)", -14);
        faulty(h, 1, "-(a+" + House.times(9, "-") + "a)");
        value(h, "-(a)+" + House.times(10, "-") + "a", 0);
        faulty(h, 1, "-(a)+" + House.times(11, "-") + "a");
    }
}
